/** Promises 34 to 39: what the bureau would do; and promise 44, which must do the same. */
final class QuoteTest {
    public static void main(String[] args) {
        quote();
        reasonOverdue();
        reasonPermit();
        reasonHeld();
        reasonCredit();
        reasonTooMany();
        displaced();
        earliest();
        wrongInputs();
        Check.end("QuoteTest");
    }

    /** What the three calls about a new loan answer, and whether lend agrees; the state is as before afterwards. */
    private static void asked(Check.Maker maker, int borrower, int start, int length, int reason, int cause,
            int displaced) {
        String loan = "(" + borrower + ", " + start + ", " + length + ")";
        String before = Check.picture(maker.make());
        SilenceBureau x = maker.make();
        Check.same("refusal" + loan, reason, x.refusal(borrower, start, length));
        Check.same("cause" + loan, cause, x.refusalCause(borrower, start, length));
        Check.same("displaced" + loan, displaced, x.displacedBy(borrower, start, length));
        Check.same("asking alters nothing", before, Check.picture(x));
        SilenceBureau y = maker.make();
        if (reason != 0) {
            int undoable = y.undoCount();
            Check.throwing("lend" + loan, Check.STATE, () -> y.lend(borrower, start, length));
            Check.same("no change is recorded", undoable, y.undoCount());
        } else {
            granted(y, loan, borrower, start, length, displaced);
            y.undo();
        }
        Check.same("nothing has altered", before, Check.picture(y));
    }

    private static void granted(SilenceBureau x, String loan, int borrower, int start, int length, int displaced) {
        int cancelled = x.loansWith(SilenceBureau.CANCELLED);
        int free = x.creditOf(borrower);
        int loans = x.loanCount();
        Check.same("lend" + loan, loans, x.lend(borrower, start, length));
        Check.same("the loan is granted", loans + 1, x.loanCount());
        Check.same("its start", start, x.startOf(loans));
        Check.same("its price", x.quote(borrower, length), x.priceOf(loans));
        Check.same("the price is paid", free - x.quote(borrower, length), x.creditOf(borrower));
        Check.same("the displaced loans", cancelled + displaced, x.loansWith(SilenceBureau.CANCELLED));
    }

    /** The text's bureau, after the calls. */
    private static Check.Maker after(String text, Check.CallOn... calls) {
        return () -> {
            SilenceBureau x = Check.loaded(text);
            for (Check.CallOn call : calls) {
                call.make(x);
            }
            return x;
        };
    }

    private static void quote() {
        SilenceBureau x = Check.loaded("bureau 1 0;street s 0 99;street t 99 0;street u 19 0;borrower a s 1 0;"
                + "borrower b t 1 0;borrower c u 1 0");
        int[] perHour = {1, 10, 2};
        for (int b = 0; b < 3; b++) {
            for (int length = 1; length <= 6; length++) {
                Check.same("quote(" + b + ", " + length + ")", length * perHour[b], x.quote(b, length));
            }
        }
    }

    private static void reasonOverdue() {
        String text = "bureau 1 0;street s 0 0;borrower a s 1 10;borrower b s 1 10;lend b 0 1;"
                + "lend a 1 1;lend a 2 1;lend a 3 1;hours 6;whistle 1;permit s 10 1";
        Check.Maker late = after(text);
        asked(late, 0, 20, 1, 1, 2, -1);
        asked(late, 0, 10, 1, 1, 2, -1);
        asked(late, 1, 20, 1, 1, 0, -1);
        asked(after(text, x -> x.whistle(0)), 1, 20, 1, 0, -1, 0);
        asked(after(text, x -> x.whistle(0), x -> x.whistle(2)), 0, 20, 1, 1, 3, -1);
        asked(after(text, x -> x.whistle(0), x -> x.whistle(2), x -> x.whistle(3)), 0, 20, 1, 0, -1, 0);
    }

    private static void reasonPermit() {
        String text = "bureau 1 0;street s 0 0;street t 0 0;borrower a s 1 4;borrower b t 9 99;"
                + "permit t 8 1;permit s 12 2;permit s 11 2;permit s 20 1;lend b 10 1";
        Check.Maker drums = after(text);
        asked(drums, 0, 8, 2, 0, -1, 0);
        asked(drums, 0, 9, 1, 0, -1, 0);
        asked(drums, 0, 9, 3, 2, 2, -1);
        asked(drums, 0, 12, 6, 2, 1, -1);
        asked(drums, 0, 13, 1, 2, 1, -1);
        asked(drums, 0, 14, 1, 0, -1, 0);
        asked(drums, 1, 11, 4, 0, -1, 0);
        asked(drums, 1, 8, 1, 2, 0, -1);
        asked(drums, 0, 15, 6, 2, 3, -1);
        Check.Maker revoked = after(text, x -> x.revokePermit(1));
        asked(revoked, 0, 12, 2, 2, 2, -1);
        asked(revoked, 0, 13, 2, 0, -1, 0);
    }

    private static void reasonHeld() {
        String text = "bureau 9 0;street s 0 0;street t 0 0;borrower a s 5 30;borrower b t 5 30;"
                + "borrower c s 6 30;borrower d t 4 30;lend d 0 2;lend a 10 3;lend d 14 2;lend c 20 1;hours 1";
        Check.Maker held = after(text);
        asked(held, 2, 1, 1, 3, 0, -1);
        asked(held, 2, 2, 1, 0, -1, 0);
        asked(held, 1, 9, 2, 3, 1, -1);
        asked(held, 0, 10, 1, 3, 1, -1);
        asked(held, 2, 12, 4, 0, -1, 2);
        asked(held, 1, 12, 4, 3, 1, -1);
        asked(held, 1, 13, 4, 0, -1, 1);
        asked(held, 1, 15, 6, 3, 3, -1);
        asked(held, 2, 16, 5, 3, 3, -1);
        asked(held, 3, 13, 2, 3, 2, -1);
        asked(held, 2, 13, 1, 0, -1, 0);
        asked(after(text, x -> x.cancel(3)), 1, 15, 6, 0, -1, 1);
    }

    private static void reasonCredit() {
        Check.Maker poor = after("bureau 1 9;street s 25 0;borrower a s 1 9;borrower b s 2 0;lend a 40 1");
        asked(poor, 0, 5, 2, 0, -1, 0);
        asked(poor, 0, 5, 3, 4, 3, -1);
        asked(poor, 0, 5, 6, 4, 12, -1);
        asked(poor, 1, 40, 1, 4, 3, -1);
        asked(poor, 0, 40, 6, 3, 0, -1);
        Check.Maker fined = after("bureau 1 99;street s 0 0;borrower a s 1 2;lend a 0 1;hours 2;whistle 0");
        asked(fined, 0, 5, 2, 4, 100, -1);
    }

    private static void reasonTooMany() {
        String text = "bureau 1 0;street s 0 0;borrower a s 1 31;borrower b s 2 0";
        asked(after(text, x -> lendHours(x, 29)), 0, 40, 2, 0, -1, 0);
        Check.Maker full = after(text, x -> lendHours(x, 30));
        asked(full, 0, 40, 1, 5, -1, -1);
        asked(full, 0, 40, 2, 4, 1, -1);
        asked(full, 1, 40, 1, 4, 1, -1);
        asked(after(text, x -> lendHours(x, 30), x -> x.cancel(3)), 0, 40, 1, 5, -1, -1);
    }

    /** Lends the hours from 0 on to borrower 0, one by one. */
    private static int lendHours(SilenceBureau x, int hours) {
        for (int i = 0; i < hours; i++) {
            x.lend(0, i, 1);
        }
        return hours;
    }

    private static void displaced() {
        Check.Maker planned = after("bureau 1 0;street s 30 0;street t 0 0;borrower a s 1 99;borrower b t 2 30;"
                + "borrower c s 3 99;lend a 10 2;lend b 12 1;lend a 13 3;lend a 16 1");
        asked(planned, 2, 11, 5, 0, -1, 3);
        asked(planned, 2, 11, 6, 0, -1, 4);
        asked(planned, 1, 11, 1, 0, -1, 1);
        SilenceBureau x = planned.make();
        Check.same("credit of a", 99 - 24, x.creditOf(0));
        Check.same("the new loan", 4, x.lend(2, 11, 5));
        int[] statuses = {5, 5, 5, 0, 0};
        for (int i = 0; i < statuses.length; i++) {
            Check.same("status of loan " + i, statuses[i], x.statusOf(i));
        }
        Check.same("a is refunded", 99 - 4, x.creditOf(0));
        Check.same("b is refunded", 30, x.creditOf(1));
        Check.same("c has paid", 99 - 20, x.creditOf(2));
        Check.same("hour 10 is free again", -1, x.holderOf(10));
        Check.same("a cancelled loan is not displaced again", 0, x.displacedBy(1, 10, 1));
    }

    private static void earliest() {
        SilenceBureau x = Check.loaded("bureau 1 0;street s 0 0;street t 0 0;borrower a s 1 9;borrower b s 2 99;"
                + "borrower c t 9 99;hours 3;permit s 7 2;lend c 4 1;lend a 9 1");
        Check.same("the present hour", 3, x.earliestStart(0, 1));
        Check.same("two hours of a", 5, x.earliestStart(0, 2));
        Check.same("three hours of a", 10, x.earliestStart(0, 3));
        Check.same("three hours of b", 9, x.earliestStart(1, 3));
        Check.same("three peaceful hours of b", 10, x.earliestPeacefulStart(1, 3));
        Check.same("two peaceful hours of b", 5, x.earliestPeacefulStart(1, 2));
        Check.same("c cannot displace itself", 5, x.earliestStart(2, 2));
        Check.same("c displaces a", 5, x.earliestStart(2, 6));
        Check.same("six peaceful hours of c", 10, x.earliestPeacefulStart(2, 6));

        String hours0to45 = "bureau 1 0;street s 0 0;borrower a s 1 99;borrower b s 2 99;lend a 0 6;"
                + "lend a 6 6;lend a 12 6;lend a 18 6;lend a 24 6;lend a 30 6;lend a 36 6;lend a 42 4";
        SilenceBureau full = Check.loaded(hours0to45);
        Check.same("the last two hours", 46, full.earliestStart(0, 2));
        Check.same("no three hours", SilenceBureau.NONE, full.earliestStart(0, 3));
        Check.same("b displaces", 0, full.earliestStart(1, 6));
        Check.same("b in peace", 46, full.earliestPeacefulStart(1, 2));
        Check.same("b has no three peaceful hours", SilenceBureau.NONE, full.earliestPeacefulStart(1, 3));
        Check.same("too poor", SilenceBureau.NONE,
                Check.loaded("bureau 1 0;street s 0 0;borrower a s 1 1").earliestStart(0, 2));
        for (int i = 0; i < 30; i++) {
            Check.same("three hours when the horizon moves", i < 1 ? -1 : Math.max(46, i), firstAfter(hours0to45, i));
        }
    }

    /** Lets the hours pass, and asks borrower 0 for three hours. */
    private static int firstAfter(String text, int hours) {
        SilenceBureau x = Check.loaded(text);
        if (hours > 0) {
            x.advance(hours);
        }
        for (int i = 0; i < x.loanCount(); i++) {
            if (x.statusOf(i) == SilenceBureau.OVERDUE) {
                x.whistle(i);
            }
        }
        return x.earliestStart(0, 3);
    }

    private static void wrongInputs() {
        SilenceBureau x = new SilenceBureau();
        int[] borrowers = {-1, 3, 12, Integer.MIN_VALUE, Integer.MAX_VALUE};
        for (int b : borrowers) {
            Check.throwing("quote(" + b + ")", Check.INDEX, () -> x.quote(b, 0));
            Check.throwing("refusal(" + b + ")", Check.INDEX, () -> x.refusal(b, 0, 0));
            Check.throwing("refusalCause(" + b + ")", Check.INDEX, () -> x.refusalCause(b, 0, 0));
            Check.throwing("displacedBy(" + b + ")", Check.INDEX, () -> x.displacedBy(b, 0, 0));
            Check.throwing("earliestStart(" + b + ")", Check.INDEX, () -> x.earliestStart(b, 0));
            Check.throwing("earliestPeacefulStart(" + b + ")", Check.INDEX, () -> x.earliestPeacefulStart(b, 0));
            Check.throwing("lend(" + b + ")", Check.INDEX, () -> x.lend(b, 0, 0));
        }
        int[] lengths = {0, 7, -1, Integer.MIN_VALUE, Integer.MAX_VALUE};
        for (int length : lengths) {
            Check.throwing("quote length " + length, Check.ARGUMENT, () -> x.quote(0, length));
            Check.throwing("earliestStart length " + length, Check.ARGUMENT, () -> x.earliestStart(0, length));
            Check.throwing("earliestPeacefulStart length " + length, Check.ARGUMENT,
                    () -> x.earliestPeacefulStart(0, length));
            wrongSpan(x, 20, length);
        }
        int[][] spans = {{4, 1}, {53, 1}, {52, 2}, {48, 6}, {-1, 6}, {Integer.MAX_VALUE, 6}, {Integer.MIN_VALUE, 6},
            {Integer.MAX_VALUE - 2, 3}};
        for (int[] span : spans) {
            wrongSpan(x, span[0], span[1]);
        }
        Check.same("the last hour", 0, x.refusal(2, 52, 1));
        Check.same("the last hours", 0, x.refusal(2, 47, 5));
    }

    private static void wrongSpan(SilenceBureau x, int start, int length) {
        String span = " " + start + ", " + length;
        Check.throwing("refusal" + span, Check.ARGUMENT, () -> x.refusal(0, start, length));
        Check.throwing("refusalCause" + span, Check.ARGUMENT, () -> x.refusalCause(0, start, length));
        Check.throwing("displacedBy" + span, Check.ARGUMENT, () -> x.displacedBy(0, start, length));
        Check.throwing("lend" + span, Check.ARGUMENT, () -> x.lend(0, start, length));
    }
}
