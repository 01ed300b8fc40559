/** Promises 21 to 25 and 40: borrowers and how ill they are. */
final class BorrowerTest {
    public static void main(String[] args) {
        borrowers();
        overdue();
        rest();
        strain();
        bounds();
        forecast();
        mostIll();
        wrongBorrowers();
        Check.end("BorrowerTest");
    }

    private static void borrowers() {
        SilenceBureau x = Check.loaded("bureau 1 9;street s 10 1;street t 1 1;borrower a t 0 0;borrower b s 9 999;"
                + "borrower c t 4 5");
        int[] street = {1, 0, 1};
        int[] illness = {0, 9, 4};
        int[] credit = {0, 999, 5};
        for (int b = 0; b < 3; b++) {
            Check.same("street of " + b, street[b], x.streetOf(b));
            Check.same("illness of " + b, illness[b], x.illnessOf(b));
            Check.same("credit of " + b, credit[b], x.creditOf(b));
        }
        x.lend(2, 0, 5);
        Check.same("all credit spent", 0, x.creditOf(2));
        x.advance(6);
        Check.same("a negative credit", -9, x.creditOf(2));
    }

    private static void overdue() {
        SilenceBureau x = Check.loaded("bureau 2 7;street s 0 0;borrower a s 1 99;borrower b s 2 99;"
                + "lend b 0 1;lend a 1 1;lend a 2 1;lend b 4 2");
        x.advance(3);
        Check.same("b has one overdue loan", 1, x.overdueLoans(1));
        Check.same("a has none yet", 0, x.overdueLoans(0));
        x.advance(2);
        Check.same("a has two", 2, x.overdueLoans(0));
        Check.same("each costs the late fee", 99 - 2 - 14, x.creditOf(0));
        x.whistle(1);
        Check.same("one is returned", 1, x.overdueLoans(0));
        Check.same("the late fee stays paid", 99 - 2 - 14, x.creditOf(0));
        x.advance(20);
        Check.same("the fee is charged once a loan", 99 - 2 - 14, x.creditOf(0));
    }

    private static void rest() {
        SilenceBureau x = Check.loaded("bureau 24 0;street s 10 10;street t 10 10;borrower a s 5 999;borrower b t 5 999;"
                + "borrower c s 1 9;lend a 0 3;lend a 10 2");
        x.advance(20);
        Check.same("five hours of rest", 5, x.illnessOf(0));
        x.lend(0, 20, 6);
        x.advance(1);
        Check.same("the sixth hour heals", 4, x.illnessOf(0));
        Check.same("and all of the street", 0, x.illnessOf(2));
        Check.same("but no other street", 5, x.illnessOf(1));
        x.advance(5);
        Check.same("the count began anew", 4, x.illnessOf(0));
        x.lend(0, 26, 1);
        x.advance(1);
        Check.same("six more hours heal", 3, x.illnessOf(0));

        SilenceBureau still = Check.loaded("bureau 1 0;street s 0 9;borrower a s 9 9");
        still.advance(12);
        Check.same("noise 0 without a loan is rest too", 8, still.illnessOf(0));
    }

    private static void strain() {
        SilenceBureau x = Check.loaded("bureau 1 0;street s 80 79;street t 40 39;borrower a s 0 9;borrower b t 0 9;"
                + "permit t 0 12;permit t 12 6");
        x.advance(17);
        Check.same("eleven day hours", 0, x.illnessOf(0));
        x.advance(1);
        Check.same("twelve hours at 80", 1, x.illnessOf(0));
        Check.same("twelve hours with drums", 1, x.illnessOf(1));
        x.advance(4);
        x.advance(12);
        Check.same("four and three more are not twelve", 1, x.illnessOf(0));
        x.advance(3);
        Check.same("eleven again over the night", 1, x.illnessOf(0));
        Check.same("one hour more in the forecast", 2, x.illnessAfter(0, 1));
        x.advance(1);
        Check.same("twelve again over the night", 2, x.illnessOf(0));
        x.advance(8);
        x.save(0);
        x.advance(20);
        x.restore(0);
        Check.same("the count of strain is saved", 3, x.illnessAfter(0, 10 + 12));
        x.undo();
        x.undo();
        Check.same("the count of strain is restored", 3, x.illnessAfter(0, 10 + 12));
    }

    private static void bounds() {
        SilenceBureau x = Check.loaded("bureau 1 0;street s 99 99;street t 0 0;borrower a s 9 9;borrower b t 0 9");
        x.advance(99);
        Check.same("not above 9", 9, x.illnessOf(0));
        Check.same("not below 0", 0, x.illnessOf(1));
    }

    private static void forecast() {
        SilenceBureau x = Check.loaded("bureau 1 0;street s 80 10;borrower a s 5 999;hours 4;lend a 4 6;lend a 20 1");
        Check.same("no hours", 5, x.illnessAfter(0, 0));
        Check.same("before the healing hour", 5, x.illnessAfter(0, 5));
        Check.same("after it", 4, x.illnessAfter(0, 6));
        // day hours at 80: 10 to 19 and 21 on the first day, then from 30
        Check.same("eleven loud hours", 4, x.illnessAfter(0, 26));
        Check.same("twelve loud hours", 5, x.illnessAfter(0, 27));
        Check.same("a forecast beyond the horizon", 5 - 1 + (11 + 16 + 16 + 1) / 12, x.illnessAfter(0, 75));
        Check.same("two hundred hours", 9, x.illnessAfter(0, 200));
        String before = Check.picture(x);
        x.illnessAfter(0, 200);
        Check.same("a forecast alters nothing", before, Check.picture(x));
        Check.throwing("201 hours", Check.ARGUMENT, () -> x.illnessAfter(0, 201));
        Check.throwing("-1 hours", Check.ARGUMENT, () -> x.illnessAfter(0, -1));
        Check.throwing("no such borrower", Check.INDEX, () -> x.illnessAfter(1, 201));
        for (int i = 0; i < 100; i++) {
            x.advance(99);
        }
        x.advance(95);
        Check.same("the last clock", 9999, x.clock());
        Check.same("beyond the last clock", 9, x.illnessAfter(0, 200));
    }

    private static void mostIll() {
        SilenceBureau x = Check.loaded("bureau 1 0;street s 0 0;street t 99 99;borrower a s 3 9;borrower b t 4 9;"
                + "borrower c s 4 9;borrower d t 0 9");
        Check.same("a tie", 1, x.mostIll());
        Check.same("none", SilenceBureau.NONE, Check.loaded("bureau 1 0;street s 1 1").mostIll());
        Check.same("all well", 0, Check.loaded("bureau 1 0;street s 1 1;borrower a s 0 1;borrower b s 0 1").mostIll());
        Check.same("the last one", 1, Check.loaded("bureau 1 0;street s 1 1;borrower a s 8 1;borrower b s 9 1").mostIll());
    }

    private static void wrongBorrowers() {
        SilenceBureau x = new SilenceBureau();
        int[] wrong = {-1, 3, 12, Integer.MIN_VALUE, Integer.MAX_VALUE};
        for (int b : wrong) {
            Check.throwing("streetOf(" + b + ")", Check.INDEX, () -> x.streetOf(b));
            Check.throwing("illnessOf(" + b + ")", Check.INDEX, () -> x.illnessOf(b));
            Check.throwing("creditOf(" + b + ")", Check.INDEX, () -> x.creditOf(b));
            Check.throwing("overdueLoans(" + b + ")", Check.INDEX, () -> x.overdueLoans(b));
            Check.throwing("illnessAfter(" + b + ")", Check.INDEX, () -> x.illnessAfter(b, 0));
        }
    }
}
