import java.util.ArrayList;
import java.util.Arrays;
import java.util.List;
import java.util.Random;

/**
 * Runs of calls drawn from fixed seeds: the calls must agree with one another, no call may throw what the document
 * does not list for it, and nothing may be thrown by the machine. Each question is put to a bureau that makes the run
 * anew, so that none is used for more than 512 calls.
 */
final class RandomRunsTest {
    /** The changes of a run: with them, the picture of the fullest bureau takes fewer than 512 calls. */
    private static final int RUN = 40;
    private static final int[] STRANGE = {-1, 99, 100, 9999, Integer.MIN_VALUE, Integer.MAX_VALUE,
        Integer.MAX_VALUE - 5};

    public static void main(String[] args) {
        for (int seed = 0; seed < 150; seed++) {
            agreeingCalls(new Random(seed));
            wildCalls(new Random(seed));
            wildTexts(new Random(seed));
        }
        Check.end("RandomRunsTest");
    }

    private static String randomText(Random r) {
        StringBuilder text = new StringBuilder();
        text.append("bureau ").append(1 + r.nextInt(6)).append(' ').append(r.nextInt(20));
        int streets = 1 + r.nextInt(3);
        for (int s = 0; s < streets; s++) {
            int day = r.nextInt(4) == 0 ? 0 : r.nextInt(100);
            text.append(";street ").append((char) ('a' + s)).append("st ").append(day).append(' ').append(r.nextInt(100));
        }
        int borrowers = 1 + r.nextInt(6);
        for (int b = 0; b < borrowers; b++) {
            text.append(";borrower ").append((char) ('k' + b)).append(' ').append((char) ('a' + r.nextInt(streets)));
            text.append("st ").append(r.nextInt(10)).append(' ').append(r.nextInt(1000));
        }
        return text.toString();
    }

    private static void agreeingCalls(Random r) {
        String text = randomText(r);
        List<Check.CallOn> run = new ArrayList<>();
        for (int i = 0; i < RUN; i++) {
            Check.CallOn change = drawn(replayed(text, run), r);
            undoneAndMadeAgain(text, run, change);
            run.add(change);
            Check.same("the accounts", 0, replayed(text, run).ledgerDifference());
            horizonAgrees(replayed(text, run));
            quotesAgree(replayed(text, run), r);
            forecastsAgree(replayed(text, run), r);
        }
    }

    private static SilenceBureau replayed(String text, List<Check.CallOn> run) {
        SilenceBureau x = Check.loaded(text);
        for (Check.CallOn change : run) {
            made(x, change);
        }
        return x;
    }

    private static boolean made(SilenceBureau x, Check.CallOn change) {
        return Check.nameOfThrown(() -> change.make(x)).startsWith("answer ");
    }

    /** A change, undone, must leave nothing behind; made again, it must do the same; refused, it must do nothing. */
    private static void undoneAndMadeAgain(String text, List<Check.CallOn> run, Check.CallOn change) {
        String before = Check.picture(replayed(text, run));
        SilenceBureau x = replayed(text, run);
        int undoable = x.undoCount();
        boolean recorded = made(x, change);
        Check.same("recorded changes", recorded ? Math.min(undoable + 1, 10) : undoable, x.undoCount());
        if (!recorded) {
            Check.same("a call that throws alters nothing", before, Check.picture(x));
            return;
        }
        String after = Check.picture(x);
        SilenceBureau y = replayed(text, run);
        made(y, change);
        y.undo();
        Check.same("undo", before, Check.picture(y));
        SilenceBureau z = replayed(text, run);
        made(z, change);
        z.undo();
        made(z, change);
        Check.same("the same call does the same", after, Check.picture(z));
    }

    private static Check.CallOn drawn(SilenceBureau x, Random r) {
        int borrower = r.nextInt(x.borrowerCount());
        int street = r.nextInt(x.streetCount());
        int start = x.clock() + (r.nextBoolean() ? r.nextInt(12) : r.nextInt(48));
        int length = 1 + r.nextInt(6);
        int loan = r.nextInt(x.loanCount() + 1);
        int permit = r.nextInt(x.permitCount() + 1);
        int amount = 1 + r.nextInt(99);
        int hours = 1 + r.nextInt(12);
        switch (r.nextInt(10)) {
            case 0: return y -> y.cancel(loan);
            case 1: return y -> y.whistle(loan);
            case 2: return y -> y.grantPermit(street, start, length);
            case 3: return y -> y.revokePermit(permit);
            case 4: return y -> y.pay(borrower, amount);
            case 5: return y -> y.advance(hours);
            case 6: return returning(x);
            default: return y -> y.lend(borrower, start, length);
        }
    }

    /** Keeps the run going: returns the first loan that can be returned, or lets an hour pass. */
    private static Check.CallOn returning(SilenceBureau x) {
        int loans = x.loanCount();
        for (int i = 0; i < loans; i++) {
            int loan = i;
            int status = x.statusOf(loan);
            if (status == SilenceBureau.ENDED || status == SilenceBureau.OVERDUE) {
                return y -> y.whistle(loan);
            }
        }
        return y -> y.advance(1);
    }

    private static void horizonAgrees(SilenceBureau x) {
        int clock = x.clock();
        int[] holders = plannedHolders(x, clock);
        int free = 0;
        Check.same("hours of the schedule", 24, x.writeSchedule());
        for (int i = 0; i < 48; i++) {
            Check.same("holder of " + (clock + i), holders[i], x.holderOf(clock + i));
            int borrower = holders[i] == SilenceBureau.NONE ? SilenceBureau.NONE : x.borrowerOf(holders[i]);
            if (i < 24) {
                Check.same("schedule", borrower == SilenceBureau.NONE ? (int) '.' : 'k' + borrower, x.outputByte(i));
            }
            if (borrower == SilenceBureau.NONE) {
                free++;
            } else {
                int street = x.streetOf(borrower);
                Check.same("a loan silences its street", 0, x.noiseAt(street, clock + i));
                Check.same("no loan in a permit", SilenceBureau.NONE, x.permitFor(street, clock + i));
            }
        }
        Check.same("free hours", free, x.freeHours());
        Check.same("lent share", (48 - free) / 48f, x.lentShare());
    }

    /** The loans that hold the hours of the horizon, as their starts, lengths and statuses tell. */
    private static int[] plannedHolders(SilenceBureau x, int clock) {
        int[] holders = new int[48];
        Arrays.fill(holders, SilenceBureau.NONE);
        int loans = x.loanCount();
        for (int loan = 0; loan < loans; loan++) {
            if (x.statusOf(loan) <= SilenceBureau.RUNNING) {
                int start = x.startOf(loan);
                int end = start + x.lengthOf(loan);
                for (int hour = Math.max(start, clock); hour < end; hour++) {
                    holders[hour - clock] = loan;
                }
            }
        }
        return holders;
    }

    private static void quotesAgree(SilenceBureau x, Random r) {
        int borrower = r.nextInt(x.borrowerCount());
        int length = 1 + r.nextInt(6);
        int clock = x.clock();
        int first = SilenceBureau.NONE;
        int firstPeaceful = SilenceBureau.NONE;
        for (int start = clock + 48 - length; start >= clock; start--) {
            int displaced = x.displacedBy(borrower, start, length);
            if (x.refusal(borrower, start, length) == 0) {
                first = start;
                firstPeaceful = displaced == 0 ? start : firstPeaceful;
            } else {
                Check.same("displaced by a refused loan", SilenceBureau.NONE, displaced);
            }
        }
        Check.same("earliest start", first, x.earliestStart(borrower, length));
        Check.same("earliest peaceful start", firstPeaceful, x.earliestPeacefulStart(borrower, length));
        lendAgrees(x, borrower, clock + r.nextInt(49 - length), length);
    }

    private static void lendAgrees(SilenceBureau x, int borrower, int start, int length) {
        int reason = x.refusal(borrower, start, length);
        int cause = x.refusalCause(borrower, start, length);
        int displaced = x.displacedBy(borrower, start, length);
        Check.same("a cause for the reasons 1 to 4 alone", reason >= 1 && reason <= 4, cause != SilenceBureau.NONE);
        if (reason == 1) {
            Check.same("the cause is overdue", SilenceBureau.OVERDUE, x.statusOf(cause));
            Check.same("the cause is the borrower's", borrower, x.borrowerOf(cause));
        }
        if (reason == 4) {
            Check.same("the credit lacks", x.quote(borrower, length) - x.creditOf(borrower), cause);
        }
        int cancelled = x.loansWith(SilenceBureau.CANCELLED);
        boolean granted = made(x, y -> y.lend(borrower, start, length));
        Check.same("lend and refusal", reason == 0, granted);
        if (granted) {
            Check.same("displaced", displaced, x.loansWith(SilenceBureau.CANCELLED) - cancelled);
            Check.same("the new loan holds its last hour", x.loanCount() - 1, x.holderOf(start + length - 1));
        }
    }

    private static void forecastsAgree(SilenceBureau x, Random r) {
        int hours = 1 + r.nextInt(48);
        int borrower = r.nextInt(x.borrowerCount());
        int street = r.nextInt(x.streetCount());
        int clock = x.clock();
        int illness = x.illnessAfter(borrower, hours);
        int total = x.noiseTotal(street);
        for (int i = 0; i < hours; i++) {
            total += x.noiseAt(street, clock + i);
        }
        Check.same("noise now", x.noiseAt(street, clock), x.noiseNow(street));
        x.advance(hours);
        Check.same("the forecast of the illness", illness, x.illnessOf(borrower));
        Check.same("the forecast of the noise", total, x.noiseTotal(street));
        Check.same("the mean noise", total / (double) (clock + hours), x.meanNoise(street));
    }

    private static int number(Random r, int clock) {
        switch (r.nextInt(8)) {
            case 0: return STRANGE[r.nextInt(STRANGE.length)];
            case 1: return clock + r.nextInt(60) - 5;
            case 2: return r.nextInt();
            default: return r.nextInt(13);
        }
    }

    private static void wildCalls(Random r) {
        SilenceBureau x = new SilenceBureau();
        for (int i = 0; i < 256; i++) {
            int clock = x.clock();
            wildCall(x, r.nextInt(46), number(r, clock), number(r, clock), number(r, clock));
        }
    }

    private static void listed(String call, String exceptions, Check.Call made) {
        String got = Check.nameOfThrown(made);
        boolean due = got.startsWith("answer ");
        for (String name : exceptions.split(" ")) {
            due |= !name.isEmpty() && (got.equals(Check.INDEX.getName()) && name.equals("X")
                    || got.equals(Check.ARGUMENT.getName()) && name.equals("A")
                    || got.equals(Check.STATE.getName()) && name.equals("S"));
        }
        Check.same(call + " throws what is listed, not " + got, true, due);
    }

    private static void wildCall(SilenceBureau x, int kind, int a, int b, int c) {
        switch (kind) {
            case 0: listed("append", "S", () -> x.append(a, b, c, a, b)); break;
            case 1: listed("load", "X A", () -> x.load(a)); break;
            case 2: listed("loansWith", "A", () -> x.loansWith(a)); break;
            case 3: listed("noiseNow", "X", () -> x.noiseNow(a)); break;
            case 4: listed("noiseAt", "X A", () -> x.noiseAt(a, b)); break;
            case 5: listed("noiseTotal", "X", () -> x.noiseTotal(a)); break;
            case 6: listed("quietHours", "X", () -> x.quietHours(a)); break;
            case 7: listed("streetOf", "X", () -> x.streetOf(a)); break;
            case 8: listed("illnessOf", "X", () -> x.illnessOf(a)); break;
            case 9: listed("creditOf", "X", () -> x.creditOf(a)); break;
            case 10: listed("overdueLoans", "X", () -> x.overdueLoans(a)); break;
            case 11: listed("borrowerOf", "X", () -> x.borrowerOf(a)); break;
            case 12: listed("startOf", "X", () -> x.startOf(a)); break;
            case 13: listed("lengthOf", "X", () -> x.lengthOf(a)); break;
            case 14: listed("priceOf", "X", () -> x.priceOf(a)); break;
            case 15: listed("statusOf", "X", () -> x.statusOf(a)); break;
            case 16: listed("holderOf", "A", () -> x.holderOf(a)); break;
            case 17: listed("permitFor", "X A", () -> x.permitFor(a, b)); break;
            case 18: listed("quote", "X A", () -> x.quote(a, b)); break;
            case 19: listed("refusal", "X A", () -> x.refusal(a, b, c)); break;
            case 20: listed("refusalCause", "X A", () -> x.refusalCause(a, b, c)); break;
            case 21: listed("displacedBy", "X A", () -> x.displacedBy(a, b, c)); break;
            case 22: listed("earliestStart", "X A", () -> x.earliestStart(a, b)); break;
            case 23: listed("earliestPeacefulStart", "X A", () -> x.earliestPeacefulStart(a, b)); break;
            case 24: listed("illnessAfter", "X A", () -> x.illnessAfter(a, b)); break;
            case 25: listed("meanNoise", "X", () -> x.meanNoise(a)); break;
            case 26: listed("cancel", "X S", () -> x.cancel(a)); break;
            case 27: listed("whistle", "X S", () -> x.whistle(a)); break;
            case 28: listed("grantPermit", "X A S", () -> x.grantPermit(a, b, c)); break;
            case 29: listed("revokePermit", "X S", () -> x.revokePermit(a)); break;
            case 30: listed("pay", "X A", () -> x.pay(a, b)); break;
            case 31: listed("advance", "A S", () -> x.advance(a)); break;
            case 32: listed("restore", "X S", () -> x.restore(a)); break;
            case 33: listed("undo", "S", () -> x.undo()); break;
            case 34: listed("save", "X", () -> x.save(a)); break;
            case 35: listed("writeBorrower", "X", () -> x.writeBorrower(a)); break;
            case 36: listed("outputByte", "X", () -> x.outputByte(a)); break;
            case 37: listed("writeSchedule", "", () -> x.writeSchedule()); break;
            case 38: listed("ledgerDifference", "", () -> x.ledgerDifference() == 0); break;
            default: listed("lend", "X A S", () -> x.lend(a, b, c)); break;
        }
    }

    /** Cuts and alters bytes of a good text; whatever it is then, load must read it or name an offset in it. */
    private static void wildTexts(Random r) {
        String last = randomText(r);
        for (int i = 0; i < 14; i++) {
            String text = damaged(randomText(r) + ";lend k 3 2;permit ast 20 2;hours 9;whistle 0;lend k 19 1", r);
            SilenceBureau x = Check.loaded(last);
            listed("load of '" + text + "'", "A", () -> Check.load(x, text));
            int kind = x.errorKind();
            int offset = x.errorOffset();
            Check.same("kind", true, kind >= 0 && kind <= 6);
            if (kind == 0) {
                Check.same("no offset", SilenceBureau.NONE, offset);
                last = text;
            } else {
                Check.same("offset", true, offset >= 0 && offset <= text.length());
                Check.same("an error alters nothing", Check.picture(Check.loaded(last)), Check.picture(x));
            }
        }
    }

    private static String damaged(String good, Random r) {
        StringBuilder text = new StringBuilder(good);
        for (int change = r.nextInt(4); change > 0; change--) {
            int at = r.nextInt(text.length());
            if (r.nextBoolean()) {
                text.setCharAt(at, (char) (r.nextBoolean() ? r.nextInt(256) : " 0a;9\n".charAt(r.nextInt(6))));
            } else {
                text.deleteCharAt(at);
            }
        }
        return text.toString();
    }
}
