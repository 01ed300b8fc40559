import java.util.Random;

/**
 * Long runs of calls drawn from fixed seeds: the calls must agree with one another, no call may throw what the
 * document does not list for it, and nothing may be thrown by the machine.
 */
final class RandomRunsTest {
    private static final int[] STRANGE = {-1, 99, 100, 9999, Integer.MIN_VALUE, Integer.MAX_VALUE,
        Integer.MAX_VALUE - 5};

    public static void main(String[] args) {
        for (int seed = 0; seed < 150; seed++) {
            agreeingCalls(new Random(seed));
            wildCalls(new Random(seed));
            wildTexts(new Random(seed));
        }
        Check.end("RandomRunsTest");
    }

    private static String randomText(Random r) {
        StringBuilder text = new StringBuilder();
        text.append("bureau ").append(1 + r.nextInt(6)).append(' ').append(r.nextInt(20));
        int streets = 1 + r.nextInt(4);
        for (int s = 0; s < streets; s++) {
            int day = r.nextInt(4) == 0 ? 0 : r.nextInt(100);
            text.append(";street ").append((char) ('a' + s)).append("st ").append(day).append(' ').append(r.nextInt(100));
        }
        int borrowers = 1 + r.nextInt(6);
        for (int b = 0; b < borrowers; b++) {
            text.append(";borrower ").append((char) ('k' + b)).append(' ').append((char) ('a' + r.nextInt(streets)));
            text.append("st ").append(r.nextInt(10)).append(' ').append(r.nextInt(1000));
        }
        return text.toString();
    }

    private static void agreeingCalls(Random r) {
        SilenceBureau x = Check.loaded(randomText(r));
        for (int i = 0; i < 60; i++) {
            change(x, r);
            Check.same("the accounts", 0, x.ledgerDifference());
            horizonAgrees(x);
            quotesAgree(x, r);
            forecastsAgree(x, r);
        }
    }

    /** Makes one call that may alter the state, and undoes it once to see that nothing remains. */
    private static void change(SilenceBureau x, Random r) {
        String before = Check.picture(x);
        int undoable = x.undoCount();
        long seed = r.nextLong();
        boolean recorded = changed(x, new Random(seed));
        Check.same("recorded changes", recorded ? Math.min(undoable + 1, 10) : undoable, x.undoCount());
        if (recorded) {
            String after = Check.picture(x);
            x.undo();
            Check.same("undo", before, Check.picture(x));
            changed(x, new Random(seed));
            Check.same("the same call does the same", after, Check.picture(x));
        } else {
            Check.same("a call that throws alters nothing", before, Check.picture(x));
        }
    }

    private static boolean changed(SilenceBureau x, Random r) {
        int borrower = r.nextInt(x.borrowerCount());
        int start = x.clock() + (r.nextBoolean() ? r.nextInt(12) : r.nextInt(48));
        int length = 1 + r.nextInt(6);
        int loan = r.nextInt(x.loanCount() + 1);
        int kind = r.nextInt(10);
        return !Check.nameOfThrown(() -> {
            switch (kind) {
                case 0: return x.cancel(loan);
                case 1: return x.whistle(loan);
                case 2: return x.grantPermit(r.nextInt(x.streetCount()), start, length);
                case 3: return x.revokePermit(r.nextInt(x.permitCount() + 1));
                case 4: return x.pay(borrower, 1 + r.nextInt(99));
                case 5: return x.advance(1 + r.nextInt(12));
                case 6: return returnAll(x);
                default: return x.lend(borrower, start, length);
            }
        }).startsWith("java");
    }

    /** Keeps the run going: returns the first loan that can be returned, or lets an hour pass. */
    private static int returnAll(SilenceBureau x) {
        for (int i = 0; i < x.loanCount(); i++) {
            if (x.statusOf(i) == SilenceBureau.ENDED || x.statusOf(i) == SilenceBureau.OVERDUE) {
                return x.whistle(i);
            }
        }
        return x.advance(1);
    }

    private static void horizonAgrees(SilenceBureau x) {
        int free = 0;
        int length = x.writeSchedule();
        Check.same("hours of the schedule", 24, length);
        for (int i = 0; i < 48; i++) {
            int hour = x.clock() + i;
            int holder = x.holderOf(hour);
            int expected = SilenceBureau.NONE;
            for (int l = 0; l < x.loanCount(); l++) {
                boolean holds = x.statusOf(l) <= SilenceBureau.RUNNING;
                if (holds && x.startOf(l) <= hour && hour < x.startOf(l) + x.lengthOf(l)) {
                    expected = l;
                }
            }
            Check.same("holder of " + hour, expected, holder);
            free += holder == SilenceBureau.NONE ? 1 : 0;
            if (i < 24) {
                Check.same("schedule", holder == SilenceBureau.NONE ? (int) '.' : 'k' + x.borrowerOf(holder),
                        x.outputByte(i));
            }
            for (int s = 0; s < x.streetCount(); s++) {
                boolean quiet = holder != SilenceBureau.NONE && x.streetOf(x.borrowerOf(holder)) == s;
                Check.same("a loan silences its street", true, !quiet || x.noiseAt(s, hour) == 0);
                Check.same("no loan in a permit", true, !quiet || x.permitFor(s, hour) == SilenceBureau.NONE);
            }
        }
        Check.same("free hours", free, x.freeHours());
        Check.same("lent share", (48 - free) / 48f, x.lentShare());
    }

    private static void quotesAgree(SilenceBureau x, Random r) {
        int borrower = r.nextInt(x.borrowerCount());
        int length = 1 + r.nextInt(6);
        int first = SilenceBureau.NONE;
        int firstPeaceful = SilenceBureau.NONE;
        for (int start = x.clock() + 48 - length; start >= x.clock(); start--) {
            if (x.refusal(borrower, start, length) == 0) {
                first = start;
                firstPeaceful = x.displacedBy(borrower, start, length) == 0 ? start : firstPeaceful;
            } else {
                Check.same("displaced by a refused loan", SilenceBureau.NONE, x.displacedBy(borrower, start, length));
            }
        }
        Check.same("earliest start", first, x.earliestStart(borrower, length));
        Check.same("earliest peaceful start", firstPeaceful, x.earliestPeacefulStart(borrower, length));
        int start = x.clock() + r.nextInt(49 - length);
        int reason = x.refusal(borrower, start, length);
        int cause = x.refusalCause(borrower, start, length);
        int displaced = x.displacedBy(borrower, start, length);
        Check.same("a cause for the reasons 1 to 4 alone", reason >= 1 && reason <= 4, cause != SilenceBureau.NONE);
        if (reason == 1) {
            Check.same("the cause is overdue", SilenceBureau.OVERDUE, x.statusOf(cause));
            Check.same("the cause is the borrower's", borrower, x.borrowerOf(cause));
        }
        if (reason == 4) {
            Check.same("the credit lacks", x.quote(borrower, length) - x.creditOf(borrower), cause);
        }
        int cancelled = x.loansWith(SilenceBureau.CANCELLED);
        boolean granted = !Check.nameOfThrown(() -> x.lend(borrower, start, length)).startsWith("java");
        Check.same("lend and refusal", reason == 0, granted);
        if (granted) {
            Check.same("displaced", displaced, x.loansWith(SilenceBureau.CANCELLED) - cancelled);
            Check.same("the new loan holds its last hour", x.loanCount() - 1, x.holderOf(start + length - 1));
            x.undo();
        }
    }

    private static void forecastsAgree(SilenceBureau x, Random r) {
        int hours = 1 + r.nextInt(48);
        int borrower = r.nextInt(x.borrowerCount());
        int street = r.nextInt(x.streetCount());
        int illness = x.illnessAfter(borrower, hours);
        int total = x.noiseTotal(street);
        for (int i = 0; i < hours; i++) {
            total += x.noiseAt(street, x.clock() + i);
        }
        Check.same("noise now", x.noiseAt(street, x.clock()), x.noiseNow(street));
        x.save(0);
        x.advance(hours);
        Check.same("the forecast of the illness", illness, x.illnessOf(borrower));
        Check.same("the forecast of the noise", total, x.noiseTotal(street));
        Check.same("the mean noise", total / (double) x.clock(), x.meanNoise(street));
        x.restore(0);
        x.undo();
        x.undo();
    }

    private static int number(Random r, SilenceBureau x) {
        switch (r.nextInt(8)) {
            case 0: return STRANGE[r.nextInt(STRANGE.length)];
            case 1: return x.clock() + r.nextInt(60) - 5;
            case 2: return r.nextInt();
            default: return r.nextInt(13);
        }
    }

    private static void wildCalls(Random r) {
        SilenceBureau x = new SilenceBureau();
        for (int i = 0; i < 500; i++) {
            wildCall(x, r.nextInt(46), number(r, x), number(r, x), number(r, x));
        }
    }

    private static void listed(String call, String exceptions, Check.Call made) {
        String got = Check.nameOfThrown(made);
        boolean due = got.startsWith("answer ");
        for (String name : exceptions.split(" ")) {
            due |= !name.isEmpty() && (got.equals(Check.INDEX.getName()) && name.equals("X")
                    || got.equals(Check.ARGUMENT.getName()) && name.equals("A")
                    || got.equals(Check.STATE.getName()) && name.equals("S"));
        }
        Check.same(call + " throws what is listed, not " + got, true, due);
    }

    private static void wildCall(SilenceBureau x, int kind, int a, int b, int c) {
        switch (kind) {
            case 0: listed("append", "S", () -> x.append(a, b, c, a, b)); break;
            case 1: listed("load", "X A", () -> x.load(a)); break;
            case 2: listed("loansWith", "A", () -> x.loansWith(a)); break;
            case 3: listed("noiseNow", "X", () -> x.noiseNow(a)); break;
            case 4: listed("noiseAt", "X A", () -> x.noiseAt(a, b)); break;
            case 5: listed("noiseTotal", "X", () -> x.noiseTotal(a)); break;
            case 6: listed("quietHours", "X", () -> x.quietHours(a)); break;
            case 7: listed("streetOf", "X", () -> x.streetOf(a)); break;
            case 8: listed("illnessOf", "X", () -> x.illnessOf(a)); break;
            case 9: listed("creditOf", "X", () -> x.creditOf(a)); break;
            case 10: listed("overdueLoans", "X", () -> x.overdueLoans(a)); break;
            case 11: listed("borrowerOf", "X", () -> x.borrowerOf(a)); break;
            case 12: listed("startOf", "X", () -> x.startOf(a)); break;
            case 13: listed("lengthOf", "X", () -> x.lengthOf(a)); break;
            case 14: listed("priceOf", "X", () -> x.priceOf(a)); break;
            case 15: listed("statusOf", "X", () -> x.statusOf(a)); break;
            case 16: listed("holderOf", "A", () -> x.holderOf(a)); break;
            case 17: listed("permitFor", "X A", () -> x.permitFor(a, b)); break;
            case 18: listed("quote", "X A", () -> x.quote(a, b)); break;
            case 19: listed("refusal", "X A", () -> x.refusal(a, b, c)); break;
            case 20: listed("refusalCause", "X A", () -> x.refusalCause(a, b, c)); break;
            case 21: listed("displacedBy", "X A", () -> x.displacedBy(a, b, c)); break;
            case 22: listed("earliestStart", "X A", () -> x.earliestStart(a, b)); break;
            case 23: listed("earliestPeacefulStart", "X A", () -> x.earliestPeacefulStart(a, b)); break;
            case 24: listed("illnessAfter", "X A", () -> x.illnessAfter(a, b)); break;
            case 25: listed("meanNoise", "X", () -> x.meanNoise(a)); break;
            case 26: listed("cancel", "X S", () -> x.cancel(a)); break;
            case 27: listed("whistle", "X S", () -> x.whistle(a)); break;
            case 28: listed("grantPermit", "X A S", () -> x.grantPermit(a, b, c)); break;
            case 29: listed("revokePermit", "X S", () -> x.revokePermit(a)); break;
            case 30: listed("pay", "X A", () -> x.pay(a, b)); break;
            case 31: listed("advance", "A S", () -> x.advance(a)); break;
            case 32: listed("restore", "X S", () -> x.restore(a)); break;
            case 33: listed("undo", "S", () -> x.undo()); break;
            case 34: listed("save", "X", () -> x.save(a)); break;
            case 35: listed("writeBorrower", "X", () -> x.writeBorrower(a)); break;
            case 36: listed("outputByte", "X", () -> x.outputByte(a)); break;
            case 37: listed("writeSchedule", "", () -> x.writeSchedule()); break;
            case 38: listed("ledgerDifference", "", () -> x.ledgerDifference() == 0); break;
            default: listed("lend", "X A S", () -> x.lend(a, b, c)); break;
        }
    }

    /** Cuts, repeats and alters bytes of a good text; whatever it is then, load must read it or name an offset in it. */
    private static void wildTexts(Random r) {
        SilenceBureau x = new SilenceBureau();
        for (int i = 0; i < 14; i++) {
            StringBuilder text = new StringBuilder(randomText(r));
            text.append(";lend k 3 2;permit ast 20 2;hours 9;whistle 0;lend k 19 1");
            for (int change = r.nextInt(4); change > 0; change--) {
                int at = r.nextInt(text.length());
                if (r.nextBoolean()) {
                    text.setCharAt(at, (char) (r.nextBoolean() ? r.nextInt(256) : " 0a;9\n".charAt(r.nextInt(6))));
                } else {
                    text.deleteCharAt(at);
                }
            }
            String before = Check.picture(x);
            listed("load of '" + text + "'", "A", () -> Check.load(x, text.toString()));
            boolean read = x.errorKind() == 0;
            Check.same("kind", true, x.errorKind() >= 0 && x.errorKind() <= 6);
            Check.same("offset", true, read ? x.errorOffset() == -1 : x.errorOffset() >= 0
                    && x.errorOffset() <= text.length());
            Check.same("an error alters nothing", true, read || before.equals(Check.picture(x)));
        }
    }
}
