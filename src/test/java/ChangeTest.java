/** Promises 45 to 50: cancel, whistle, permits, payments and hours (lend is in QuoteTest). */
final class ChangeTest {
    public static void main(String[] args) {
        cancel();
        whistle();
        grantPermit();
        revokePermit();
        pay();
        advance();
        lastClock();
        refusedChangesAlterNothing();
        Check.end("ChangeTest");
    }

    private static void cancel() {
        SilenceBureau x = Check.loaded("bureau 2 5;street s 30 0;borrower a s 1 50;lend a 0 2;lend a 5 3;hours 1");
        Check.same("credit before", 50 - 20, x.creditOf(0));
        Check.throwing("a running loan", Check.STATE, () -> x.cancel(0));
        Check.same("the refund", 42, x.cancel(1));
        Check.same("the credit after it", 42, x.creditOf(0));
        Check.throwing("a cancelled loan", Check.STATE, () -> x.cancel(1));
        x.advance(1);
        Check.throwing("an ended loan", Check.STATE, () -> x.cancel(0));
        x.advance(2);
        Check.throwing("an overdue loan", Check.STATE, () -> x.cancel(0));
        x.whistle(0);
        Check.throwing("a returned loan", Check.STATE, () -> x.cancel(0));
        Check.throwing("cancel(2)", Check.INDEX, () -> x.cancel(2));
        Check.throwing("cancel(-1)", Check.INDEX, () -> x.cancel(-1));
        Check.same("only the fee is gone", 42 - 5, x.creditOf(0));
    }

    private static void whistle() {
        SilenceBureau x = Check.loaded("bureau 3 5;street s 30 0;borrower a s 1 50;lend a 0 2;lend a 2 1;lend a 20 1");
        Check.throwing("a planned loan", Check.STATE, () -> x.whistle(0));
        x.advance(1);
        Check.throwing("a running loan", Check.STATE, () -> x.whistle(0));
        x.advance(1);
        Check.same("at its end", 0, x.whistle(0));
        Check.throwing("a returned loan", Check.STATE, () -> x.whistle(0));
        x.advance(3);
        Check.same("ended, not overdue", SilenceBureau.ENDED, x.statusOf(1));
        x.advance(1);
        Check.same("overdue", SilenceBureau.OVERDUE, x.statusOf(1));
        x.advance(10);
        Check.same("long after its end", 13, x.whistle(1));
        Check.same("returned", SilenceBureau.RETURNED, x.statusOf(1));
        x.cancel(2);
        Check.throwing("a cancelled loan", Check.STATE, () -> x.whistle(2));
        Check.throwing("whistle(3)", Check.INDEX, () -> x.whistle(3));
        Check.throwing("whistle(-1)", Check.INDEX, () -> x.whistle(-1));
        x.advance(30);
        Check.same("a returned loan never is overdue", 1, x.loansWith(SilenceBureau.CANCELLED));
        Check.same("nor is fined", 50 - 12 - 5, x.creditOf(0));
    }

    private static void grantPermit() {
        SilenceBureau x = Check.loaded("bureau 1 0;street s 30 0;street t 0 0;borrower a s 1 99;borrower b t 2 99;"
                + "lend a 0 2;lend a 10 3;lend a 20 2;lend b 30 1;hours 1");
        Check.throwing("over a running loan", Check.STATE, () -> x.grantPermit(0, 1, 1));
        Check.throwing("over a planned loan", Check.STATE, () -> x.grantPermit(0, 5, 6));
        Check.throwing("over its last hour", Check.STATE, () -> x.grantPermit(0, 12, 1));
        Check.same("in another street", 0, x.grantPermit(1, 1, 12));
        Check.same("before a loan", 1, x.grantPermit(0, 5, 5));
        Check.same("after a loan", 2, x.grantPermit(0, 13, 7));
        x.cancel(2);
        Check.same("over a cancelled loan", 3, x.grantPermit(0, 20, 1));
        Check.same("over a permit", 4, x.grantPermit(0, 20, 1));
        Check.same("the last hour", 5, x.grantPermit(0, 48, 1));
        Check.same("the last hours", 6, x.grantPermit(0, 37, 12));
        x.advance(1);
        Check.same("over an hour of an ended loan's street", 7, x.grantPermit(0, 2, 1));
        x.grantPermit(1, 3, 1);
        x.grantPermit(1, 3, 1);
        Check.throwing("an 11th permit", Check.STATE, () -> x.grantPermit(1, 3, 1));
        x.revokePermit(9);
        Check.throwing("revoking makes no room", Check.STATE, () -> x.grantPermit(1, 3, 1));
        Check.same("ten permits", 10, x.permitCount());
        int[][] spans = {{20, 0}, {20, 13}, {20, -1}, {20, Integer.MAX_VALUE}, {20, Integer.MIN_VALUE}, {1, 1}, {50, 1},
            {49, 2}, {39, 12}, {Integer.MAX_VALUE, 1}, {Integer.MAX_VALUE, 12}, {Integer.MIN_VALUE, 12}};
        for (int[] span : spans) {
            Check.throwing("grantPermit(0, " + span[0] + ", " + span[1] + ")", Check.ARGUMENT,
                    () -> x.grantPermit(0, span[0], span[1]));
            Check.throwing("the street is looked at first", Check.INDEX, () -> x.grantPermit(2, span[0], span[1]));
            Check.throwing("a negative street", Check.INDEX, () -> x.grantPermit(-1, span[0], span[1]));
        }
    }

    private static void revokePermit() {
        SilenceBureau x = Check.loaded("bureau 1 0;street s 30 0;permit s 0 1;permit s 1 4;permit s 9 1;hours 2");
        Check.same("the first permit still counts", 2, x.revokePermit(2));
        x.undo();
        Check.same("a permit that is over", 2, x.revokePermit(0));
        Check.same("a permit that has begun", 1, x.revokePermit(1));
        Check.same("it covers no more", -1, x.permitFor(0, 3));
        Check.throwing("a revoked permit", Check.STATE, () -> x.revokePermit(1));
        Check.same("the last permit", 0, x.revokePermit(2));
        Check.throwing("revokePermit(3)", Check.INDEX, () -> x.revokePermit(3));
        Check.throwing("revokePermit(-1)", Check.INDEX, () -> x.revokePermit(-1));
        Check.same("permits are never removed", 3, x.permitCount());
        Check.same("a past noise stays", 40 + 40, x.noiseTotal(0));
    }

    private static void pay() {
        SilenceBureau x = new SilenceBureau();
        Check.same("the smallest payment", 27, x.pay(0, 1));
        Check.same("the greatest payment", 26 + 1000, x.pay(0, 999));
        Check.same("credit", 1026, x.creditOf(0));
        Check.same("the others' credit", 63, x.creditOf(1));
        int[] amounts = {0, 1000, -1, Integer.MIN_VALUE, Integer.MAX_VALUE};
        for (int amount : amounts) {
            Check.throwing("pay " + amount, Check.ARGUMENT, () -> x.pay(0, amount));
            Check.throwing("the borrower is looked at first", Check.INDEX, () -> x.pay(3, amount));
            Check.throwing("a negative borrower", Check.INDEX, () -> x.pay(-1, amount));
        }
    }

    private static void advance() {
        SilenceBureau x = Check.loaded("bureau 2 6;street s 0 0;borrower a s 1 99;lend a 0 1;lend a 1 1;lend a 6 3");
        Check.same("nothing is due", 0, x.advance(2));
        Check.same("one loan is late", 1, x.advance(1));
        Check.same("the clock", 3, x.clock());
        Check.same("another one", 1, x.advance(1));
        x.undo();
        x.undo();
        Check.same("two in one call", 2, x.advance(3));
        Check.same("they are not counted again", 0, x.advance(1));
        Check.same("planned at its start", SilenceBureau.PLANNED, x.statusOf(2));
        x.advance(1);
        Check.same("running after its first hour", SilenceBureau.RUNNING, x.statusOf(2));
        x.advance(1);
        Check.same("running before its end", SilenceBureau.RUNNING, x.statusOf(2));
        x.advance(1);
        Check.same("ended at its end", SilenceBureau.ENDED, x.statusOf(2));
        Check.same("99 hours", 1, x.advance(99));
        int[] hours = {0, 100, -1, Integer.MIN_VALUE, Integer.MAX_VALUE};
        for (int h : hours) {
            Check.throwing("advance " + h, Check.ARGUMENT, () -> x.advance(h));
        }
    }

    private static void lastClock() {
        SilenceBureau x = Check.loaded("bureau 24 0;street s 1 2;borrower a s 1 99");
        for (int i = 0; i < 100; i++) {
            x.advance(99);
        }
        Check.same("clock", 9900, x.clock());
        x.advance(98);
        Check.throwing("beyond the last clock", Check.STATE, () -> x.advance(2));
        Check.throwing("hours are looked at first", Check.ARGUMENT, () -> x.advance(100));
        Check.same("to the last clock", 0, x.advance(1));
        Check.throwing("beyond the last clock", Check.STATE, () -> x.advance(1));
        Check.same("9999", 9999, x.clock());
        Check.same("the horizon goes on", 0, x.lend(0, 10041, 6));
        Check.same("a holder beyond 9999", 0, x.holderOf(10046));
        Check.throwing("behind the horizon", Check.ARGUMENT, () -> x.holderOf(10047));
        Check.same("a permit beyond 9999", 0, x.grantPermit(0, 10000, 12));
        Check.same("noise beyond 9999", 41, x.noiseAt(0, 10000));
    }

    private static void refusedChangesAlterNothing() {
        Check.CallOn[] calls = {x -> x.lend(0, 6, 1), x -> x.lend(9, 6, 1), x -> x.lend(0, 6, 9), x -> x.cancel(0),
            x -> x.cancel(9), x -> x.whistle(1), x -> x.whistle(9), x -> x.grantPermit(1, 6, 1),
            x -> x.grantPermit(9, 6, 1), x -> x.grantPermit(0, 6, 99), x -> x.revokePermit(1), x -> x.pay(0, 0),
            x -> x.pay(9, 1), x -> x.advance(0), x -> x.restore(0), x -> x.restore(2), x -> x.save(2)};
        for (Check.CallOn call : calls) {
            SilenceBureau x = new SilenceBureau();
            x.pay(0, 1);
            String before = Check.picture(x);
            Check.same("it throws", true, Check.nameOfThrown(() -> call.make(x)).startsWith("java.lang."));
            Check.same("nothing has altered", before, Check.picture(x));
            Check.same("nothing is recorded", 1, x.undoCount());
        }
    }
}
