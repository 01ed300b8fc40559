/** Promises 26 to 33 and 41 to 43: loans, permits and measures. */
final class LoanTest {
    public static void main(String[] args) {
        loans();
        holders();
        permits();
        freeHours();
        meanNoise();
        ledger();
        wrongNumbers();
        Check.end("LoanTest");
    }

    private static void loans() {
        SilenceBureau x = Check.loaded("bureau 1 0;street s 9 1;street t 99 1;street u 10 1;borrower a s 1 999;"
                + "borrower b t 1 999;borrower c u 1 999;lend b 4 6;lend a 2 1;lend c 10 3;hours 11");
        int[][] due = {{1, 4, 6, 60, 4}, {0, 2, 1, 1, 4}, {2, 10, 3, 6, 1}};
        for (int i = 0; i < due.length; i++) {
            Check.same("borrower of loan " + i, due[i][0], x.borrowerOf(i));
            Check.same("start of loan " + i, due[i][1], x.startOf(i));
            Check.same("length of loan " + i, due[i][2], x.lengthOf(i));
            Check.same("price of loan " + i, due[i][3], x.priceOf(i));
            Check.same("status of loan " + i, due[i][4], x.statusOf(i));
        }
        x.lend(2, 14, 1);
        Check.same("a planned loan", SilenceBureau.PLANNED, x.statusOf(3));
        x.cancel(3);
        Check.same("a cancelled loan", SilenceBureau.CANCELLED, x.statusOf(3));
        Check.same("keeps its price", 2, x.priceOf(3));
        x.advance(2);
        Check.same("a loan ends at its end", SilenceBureau.ENDED, x.statusOf(2));
        x.whistle(2);
        Check.same("a returned loan", SilenceBureau.RETURNED, x.statusOf(2));
    }

    private static void holders() {
        SilenceBureau x = Check.loaded("bureau 9 0;street s 9 1;borrower a s 1 999;borrower b s 2 999;"
                + "lend a 3 2;lend a 5 1;lend a 47 1;lend a 8 3;lend b 10 1");
        int[] due = {-1, -1, -1, 0, 0, 1, -1, -1, -1, -1, 4, -1};
        for (int hour = 0; hour < due.length; hour++) {
            Check.same("holder of " + hour, due[hour], x.holderOf(hour));
        }
        Check.same("holder of the last hour", 2, x.holderOf(47));
        x.advance(4);
        Check.same("a running loan holds", 0, x.holderOf(4));
        Check.throwing("an hour that has passed", Check.ARGUMENT, () -> x.holderOf(3));
        Check.same("the last hour of the horizon", -1, x.holderOf(51));
        Check.throwing("an hour behind the horizon", Check.ARGUMENT, () -> x.holderOf(52));
        Check.throwing("a far hour", Check.ARGUMENT, () -> x.holderOf(Integer.MAX_VALUE));
        Check.throwing("an early hour", Check.ARGUMENT, () -> x.holderOf(Integer.MIN_VALUE));
    }

    private static void permits() {
        SilenceBureau x = Check.loaded("bureau 1 0;street s 1 1;street t 1 1;permit t 2 3;permit s 3 2;permit t 1 12");
        int[] inT = {-1, 2, 0, 0, 0, 2};
        int[] inS = {-1, -1, -1, 1, 1, -1};
        for (int hour = 0; hour < inT.length; hour++) {
            Check.same("permit of t at " + hour, inT[hour], x.permitFor(1, hour));
            Check.same("permit of s at " + hour, inS[hour], x.permitFor(0, hour));
        }
        Check.same("the last hour of a long permit", 2, x.permitFor(1, 12));
        Check.same("the hour after it", -1, x.permitFor(1, 13));
        x.revokePermit(0);
        Check.same("the next permit covers", 2, x.permitFor(1, 3));
        x.advance(4);
        Check.same("a permit that has begun", 1, x.permitFor(0, 4));
        Check.throwing("an hour that has passed", Check.ARGUMENT, () -> x.permitFor(0, 3));
        Check.throwing("an hour behind the horizon", Check.ARGUMENT, () -> x.permitFor(0, 52));
        Check.throwing("the street is looked at first", Check.INDEX, () -> x.permitFor(2, 52));
    }

    private static void freeHours() {
        SilenceBureau x = Check.loaded("bureau 1 0;street s 1 1;borrower a s 1 999");
        Check.same("all free", 48, x.freeHours());
        Check.same("nothing lent", 0.0f, x.lentShare());
        for (int start = 0; start < 48; start += 6) {
            x.lend(0, start, 6);
            Check.same("free hours", 42 - start, x.freeHours());
            Check.same("lent share", (start + 6) / 48f, x.lentShare());
        }
        Check.same("all lent", 1.0f, x.lentShare());
        x.cancel(7);
        Check.same("a cancelled loan is free", 6, x.freeHours());
        x.advance(3);
        Check.same("the horizon has moved", 9, x.freeHours());
        Check.same("a share with a fraction", 39f / 48f, x.lentShare());
    }

    private static void meanNoise() {
        SilenceBureau x = Check.loaded("bureau 1 0;street s 7 3;street t 2 2");
        Check.same("mean at clock 0", 0.0, x.meanNoise(0));
        x.advance(7);
        Check.same("mean noise", 25 / 7.0, x.meanNoise(0));
        Check.same("mean of the other street", 2.0, x.meanNoise(1));
        Check.throwing("meanNoise(2)", Check.INDEX, () -> x.meanNoise(2));
        Check.throwing("meanNoise(-1)", Check.INDEX, () -> x.meanNoise(-1));
    }

    private static void ledger() {
        SilenceBureau x = Check.loaded("bureau 1 7;street s 50 1;borrower a s 1 999;borrower b s 2 999;"
                + "lend a 0 2;lend a 5 2;hours 4");
        Check.same("after a late fee", 0, x.ledgerDifference());
        x.advance(4);
        Check.same("after another", 0, x.ledgerDifference());
        x.undo();
        x.whistle(0);
        x.lend(1, 6, 1);
        Check.same("after a displacement", 0, x.ledgerDifference());
        x.pay(0, 999);
        Check.same("after a payment", 0, x.ledgerDifference());
        x.save(0);
        x.cancel(2);
        Check.same("after a cancellation", 0, x.ledgerDifference());
        x.restore(0);
        x.undo();
        x.undo();
        x.undo();
        Check.same("after undo", 0, x.ledgerDifference());
    }

    private static void wrongNumbers() {
        SilenceBureau x = new SilenceBureau();
        int[] wrong = {-1, 2, 30, Integer.MIN_VALUE, Integer.MAX_VALUE};
        for (int i : wrong) {
            Check.throwing("borrowerOf(" + i + ")", Check.INDEX, () -> x.borrowerOf(i));
            Check.throwing("startOf(" + i + ")", Check.INDEX, () -> x.startOf(i));
            Check.throwing("lengthOf(" + i + ")", Check.INDEX, () -> x.lengthOf(i));
            Check.throwing("priceOf(" + i + ")", Check.INDEX, () -> x.priceOf(i));
            Check.throwing("statusOf(" + i + ")", Check.INDEX, () -> x.statusOf(i));
            Check.throwing("permitFor(" + i + ")", Check.INDEX, () -> x.permitFor(i, 5));
        }
    }
}
