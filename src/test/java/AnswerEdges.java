/** The boundaries of promises 6 to 43: what is asked of the bureau, its streets, borrowers, loans and permits. */
final class AnswerEdges {
    private static final int NONE = SilenceBureau.NONE;

    interface OneNumber {
        Object answer(int n);
    }

    private AnswerEdges() {
    }

    static void run() {
        clockAndNight();
        graceAndFee();
        counts();
        loansWith();
        undoCount();
        noiseNow();
        noiseAt();
        noiseTotal();
        quietHours();
        loudestStreet();
        borrowers();
        overdueLoans();
        mostIll();
        loans();
        statusOf();
        holderOf();
        permitFor();
        freeHours();
        quote();
        refusal();
        refusalCause();
        displacedBy();
        earliestStart();
        earliestPeacefulStart();
        illnessAfter();
        meanNoise();
        lentShare();
        ledgerDifference();
    }

    /** The call must refuse the numbers next to 0 to count - 1, and those that are far off. */
    static void noSuch(String what, int count, OneNumber call) {
        Sentences.say("Throws `IndexOutOfBoundsException` if there is no such " + what);
        int[] wrong = {-1, count, Integer.MIN_VALUE, Integer.MAX_VALUE};
        for (int n : wrong) {
            Sentences.throwing(what + " " + n, Check.INDEX, () -> call.answer(n));
        }
    }

    /** The call must refuse the numbers next to the least and the greatest, and those that are far off. */
    static void outOfRange(String words, int least, int most, OneNumber call) {
        Sentences.say("Throws `IllegalArgumentException` if " + words);
        int[] wrong = {least - 1, most + 1, Integer.MIN_VALUE, Integer.MAX_VALUE};
        for (int n : wrong) {
            Sentences.throwing("number " + n, Check.ARGUMENT, () -> call.answer(n));
        }
        for (int n : new int[] {least, most}) {
            String answer = Check.nameOfThrown(() -> call.answer(n));
            Sentences.same("number " + n + " is in range", true, answer.startsWith("answer"));
        }
    }

    interface Span {
        Object answer(int start, int length);
    }

    /** The clock is 5, lengths go from 1 to 6. */
    static void noSpan(Span call) {
        Sentences.say("Throws `IllegalArgumentException` if length is out of range, or one of the hours is not in "
                + "the horizon");
        int[][] wrong = {{20, 0}, {20, 7}, {20, Integer.MIN_VALUE}, {20, Integer.MAX_VALUE}, {4, 1}, {53, 1}, {52, 2},
            {48, 6}, {4, 6}, {-1, 6}, {0, 6}, {Integer.MIN_VALUE, 1}, {Integer.MIN_VALUE, 6}, {Integer.MAX_VALUE, 1},
            {Integer.MAX_VALUE, 6}, {Integer.MAX_VALUE - 5, 6}, {Integer.MIN_VALUE, Integer.MIN_VALUE},
            {Integer.MAX_VALUE, Integer.MAX_VALUE}};
        for (int[] span : wrong) {
            Sentences.throwing(span[0] + ", " + span[1], Check.ARGUMENT, () -> call.answer(span[0], span[1]));
        }
    }

    private static void clockAndNight() {
        Sentences.promise(6);
        Sentences.say("Returns 0 to 9999.");
        Sentences.same("the first clock", 0, Check.loaded("bureau 1 0").clock());
        Sentences.same("the last clock", 9999, Texts.atLastClock("bureau 1 0").clock());
        Sentences.promise(7);
        Sentences.say("Returns true if the hour of the day of the clock is 0 to 5, 22 or 23.");
        Sentences.same("at 0", true, Check.loaded("bureau 1 0").isNight());
        int[] nights = {1, 5, 22, 23, 24, 29, 46, 47, 48, 53};
        for (int clock : nights) {
            Sentences.same("at " + clock, true, Check.loaded("bureau 1 0;hours " + clock).isNight());
        }
        int[] days = {6, 7, 20, 21, 30, 45, 54};
        for (int clock : days) {
            Sentences.same("at " + clock, false, Check.loaded("bureau 1 0;hours " + clock).isNight());
        }
    }

    private static void graceAndFee() {
        SilenceBureau least = Check.loaded("bureau 1 0");
        SilenceBureau most = Check.loaded("bureau 24 99");
        Sentences.promise(8);
        Sentences.say("Returns 1 to 24.");
        Sentences.same("the least grace", 1, least.gracePeriod());
        Sentences.same("the greatest grace", 24, most.gracePeriod());
        Sentences.promise(9);
        Sentences.say("Returns 0 to 99.");
        Sentences.same("the least fee", 0, least.lateFee());
        Sentences.same("the greatest fee", 99, most.lateFee());
    }

    private static void counts() {
        SilenceBureau none = Check.loaded("bureau 1 0");
        Sentences.promise(10);
        Sentences.say("Returns 0 to 8.");
        Sentences.same("no street", 0, none.streetCount());
        Sentences.same("all streets", 8, Check.loaded(Texts.streets(8, "0 0")).streetCount());
        Sentences.promise(11);
        Sentences.say("Returns 0 to 12.");
        Sentences.same("no borrower", 0, none.borrowerCount());
        Sentences.same("all borrowers", 12, Check.loaded(Texts.borrowers(12)).borrowerCount());
        Sentences.promise(12);
        Sentences.say("Returns 0 to 30.");
        Sentences.same("no loan", 0, none.loanCount());
        SilenceBureau loans = Check.loaded(Texts.loans(30));
        Sentences.same("all loans", 30, loans.loanCount());
        Sentences.say("Returns the number of loans, whatever their status is.");
        loans.cancel(29);
        loans.advance(2);
        loans.whistle(0);
        loans.advance(24);
        Sentences.same("cancelled, ended, returned, overdue and planned ones", 30, loans.loanCount());
        Sentences.promise(13);
        Sentences.say("Returns 0 to 10.");
        Sentences.same("no permit", 0, none.permitCount());
        SilenceBureau permits = Check.loaded(Texts.permits(10));
        Sentences.same("all permits", 10, permits.permitCount());
        Sentences.say("Returns the number of permits, including revoked ones.");
        permits.revokePermit(0);
        permits.revokePermit(9);
        Sentences.same("with revoked ones", 10, permits.permitCount());
    }

    private static void loansWith() {
        Sentences.promise(14);
        Sentences.say("Returns the number of loans.");
        SilenceBureau none = Check.loaded("bureau 1 0");
        SilenceBureau all = Check.loaded(Texts.loans(30));
        for (int status = 0; status <= 5; status++) {
            Sentences.same("none with status " + status, 0, none.loansWith(status));
            Sentences.same("all are planned", status == SilenceBureau.PLANNED ? 30 : 0, all.loansWith(status));
        }
        outOfRange("status is not 0 to 5", 0, 5, all::loansWith);
    }

    private static void undoCount() {
        Sentences.promise(15);
        Sentences.say("Returns 0 to 10.");
        SilenceBureau x = new SilenceBureau();
        for (int i = 0; i < 13; i++) {
            Sentences.same("after " + i + " changes", Math.min(i, 10), x.undoCount());
            x.pay(0, 1);
        }
        for (int left = 9; left >= 0; left--) {
            x.undo();
            Sentences.same("left", left, x.undoCount());
        }
        Sentences.throwing("one more", Check.STATE, () -> x.undo());
        Sentences.same("none", 0, x.undoCount());
    }

    private static void noiseNow() {
        Sentences.promise(16);
        Sentences.say("Returns the noise, 0 to 139.");
        SilenceBureau x = Check.loaded("bureau 1 0;street s 99 0;street t 0 99;borrower a s 1 99;permit s 6 1;"
                + "permit t 5 2;hours 5");
        Sentences.same("no noise", 0, x.noiseNow(0));
        Sentences.same("the greatest by night", 139, x.noiseNow(1));
        x.advance(1);
        Sentences.same("the greatest by day", 139, x.noiseNow(0));
        Sentences.same("drums alone", 40, x.noiseNow(1));
        x.lend(0, 7, 2);
        x.advance(1);
        Sentences.same("a loan that would begin", 0, x.noiseNow(0));
        x.advance(1);
        Sentences.same("a loan in its last hour", 0, x.noiseNow(0));
        x.advance(1);
        Sentences.same("a loan that has ended", 99, x.noiseNow(0));
        noSuch("street", 2, x::noiseNow);
        noSuch("street", 0, Check.loaded("bureau 1 0")::noiseNow);
    }

    private static void noiseAt() {
        Sentences.promise(17);
        Sentences.say("Returns the noise, 0 to 139.");
        SilenceBureau x = Check.loaded("bureau 1 0;street s 99 98;borrower a s 1 99;hours 5;permit s 5 2;"
                + "permit s 52 1;lend a 48 4");
        int[][] noise = {{5, 138}, {6, 139}, {7, 99}, {47, 98}, {48, 0}, {51, 0}, {52, 138}};
        for (int[] hour : noise) {
            Sentences.same("noise at " + hour[0], hour[1], x.noiseAt(0, hour[0]));
        }
        noSuch("street", 1, s -> x.noiseAt(s, 5));
        noSuch("street", 1, s -> x.noiseAt(s, 4));
        outOfRange("hour is not in the horizon", 5, 52, hour -> x.noiseAt(0, hour));
    }

    private static void noiseTotal() {
        Sentences.promise(18);
        Sentences.say("Returns the noise total.");
        Sentences.same("no hour has passed", 0, Check.loaded("bureau 1 0;street s 99 99").noiseTotal(0));
        SilenceBureau x = Texts.atLastClock("bureau 1 0;street s 99 99;street t 0 0");
        Sentences.same("all hours have passed", 9999 * 99, x.noiseTotal(0));
        Sentences.same("without noise", 0, x.noiseTotal(1));
        noSuch("street", 2, x::noiseTotal);
    }

    private static void quietHours() {
        Sentences.promise(19);
        Sentences.say("Returns the quiet hours.");
        SilenceBureau x = Check.loaded("bureau 24 0;street s 1 1;street t 1 1;borrower a s 1 99;borrower b s 2 99;"
                + "lend a 1 2;lend b 3 1");
        int[] due = {0, 0, 1, 2, 3, 3};
        for (int clock = 0; clock < due.length; clock++) {
            Sentences.same("at " + clock, due[clock], x.quietHours(0));
            Sentences.same("in the other street", 0, x.quietHours(1));
            x.advance(1);
        }
        noSuch("street", 2, x::quietHours);
    }

    private static void loudestStreet() {
        Sentences.promise(20);
        Sentences.say("Returns the street with the greatest noise total, on a tie the one with the smallest number;"
                + " NONE without streets.");
        Sentences.same("without streets", NONE, Check.loaded("bureau 1 0").loudestStreet());
        Sentences.same("one street", 0, Check.loaded("bureau 1 0;street s 0 0;hours 9").loudestStreet());
        Sentences.same("all alike", 0, Check.loaded(Texts.streets(8, "7 7") + ";hours 9").loudestStreet());
        Sentences.same("the last", 7, Check.loaded(Texts.streets(7, "7 7") + ";street z 7 8;hours 1").loudestStreet());
        Sentences.same("a tie behind the first", 1, Check.loaded("bureau 1 0;street s 1 1;street t 2 2;street u 2 2;"
                + "hours 1").loudestStreet());
    }

    private static void borrowers() {
        SilenceBureau x = Check.loaded("bureau 1 99;street s 0 0;street t 1 1;borrower a t 0 0;borrower b s 9 999;"
                + "borrower c s 1 1;lend c 0 1;hours 2");
        Sentences.promise(21);
        Sentences.say("Returns the street.");
        Sentences.same("the last street", 1, x.streetOf(0));
        Sentences.same("the first street", 0, x.streetOf(1));
        noSuch("borrower", 3, x::streetOf);
        Sentences.promise(22);
        Sentences.say("Returns 0 to 9.");
        Sentences.same("the least illness", 0, x.illnessOf(0));
        Sentences.same("the greatest illness", 9, x.illnessOf(1));
        noSuch("borrower", 3, x::illnessOf);
        Sentences.promise(23);
        Sentences.say("Returns the credit, possibly negative.");
        Sentences.same("nothing", 0, x.creditOf(0));
        Sentences.same("the greatest of a text", 999, x.creditOf(1));
        Sentences.same("negative", -99, x.creditOf(2));
        noSuch("borrower", 3, x::creditOf);
        noSuch("borrower", 0, Check.loaded("bureau 1 0")::creditOf);
    }

    private static void overdueLoans() {
        Sentences.promise(24);
        Sentences.say("Returns the number of loans.");
        SilenceBureau x = Check.loaded(Texts.loans(30) + ";borrower b s 1 1");
        x.advance(24);
        Sentences.same("none is overdue yet", 0, x.overdueLoans(0));
        x.advance(1);
        Sentences.same("the first", 1, x.overdueLoans(0));
        x.advance(29);
        Sentences.same("all", 30, x.overdueLoans(0));
        Sentences.same("none of another borrower", 0, x.overdueLoans(1));
        x.whistle(29);
        Sentences.same("a returned one is not overdue", 29, x.overdueLoans(0));
        noSuch("borrower", 2, x::overdueLoans);
    }

    private static void mostIll() {
        Sentences.promise(25);
        Sentences.say("Returns the borrower with the greatest illness, on a tie the one with the smallest number;"
                + " NONE without borrowers.");
        Sentences.same("without borrowers", NONE, Check.loaded("bureau 1 0;street s 1 1").mostIll());
        Sentences.same("one borrower who is well", 0, Check.loaded("bureau 1 0;street s 1 1;"
                + "borrower a s 0 0").mostIll());
        Sentences.same("all alike", 0, Check.loaded(Texts.borrowers(12)).mostIll());
        Sentences.same("the last", 11, Check.loaded(Texts.borrowers(11) + ";borrower z s 2 0").mostIll());
        Sentences.same("a tie behind the first", 1, Check.loaded(Texts.borrowers(1) + ";borrower y s 9 0;"
                + "borrower z s 9 0").mostIll());
    }

    private static void loans() {
        SilenceBureau x = Check.loaded("bureau 24 0;street s 0 0;street t 99 0;borrower a s 1 99;borrower b t 2 99;"
                + "lend a 0 1;lend b 42 6;lend a 30 1;lend b 30 1;hours 1");
        SilenceBureau none = Check.loaded("bureau 1 0");
        Sentences.promise(26);
        Sentences.say("Returns the borrower.");
        Sentences.same("of the first loan", 0, x.borrowerOf(0));
        Sentences.same("of the last loan", 1, x.borrowerOf(3));
        noSuch("loan", 4, x::borrowerOf);
        noSuch("loan", 0, none::borrowerOf);
        Sentences.promise(27);
        Sentences.say("Returns the clock value of its first hour.");
        Sentences.same("the first hour", 0, x.startOf(0));
        Sentences.same("of six hours up to the end of the horizon", 42, x.startOf(1));
        noSuch("loan", 4, x::startOf);
        Sentences.promise(28);
        Sentences.say("Returns 1 to 6.");
        Sentences.same("the shortest", 1, x.lengthOf(0));
        Sentences.same("the longest", 6, x.lengthOf(1));
        noSuch("loan", 4, x::lengthOf);
        Sentences.promise(29);
        Sentences.say("Returns the price that was subtracted when the loan was granted.");
        Sentences.same("the least", 1, x.priceOf(0));
        Sentences.same("the greatest", 60, x.priceOf(1));
        Sentences.same("of a cancelled loan", 1, x.priceOf(2));
        noSuch("loan", 4, x::priceOf);
    }

    private static void statusOf() {
        Sentences.promise(30);
        Sentences.say("Returns PLANNED, RUNNING, ENDED, RETURNED, OVERDUE or CANCELLED.");
        SilenceBureau x = Check.loaded("bureau 3 0;street s 0 0;borrower a s 1 99;borrower b s 2 99;lend b 9 1;"
                + "lend b 4 2;lend b 3 1;lend b 0 1;lend b 1 1;lend a 8 1;lend b 8 1;hours 1;whistle 3;hours 4");
        for (int status = 0; status <= 5; status++) {
            Sentences.same("status of loan " + status, status, x.statusOf(status));
        }
        noSuch("loan", 7, x::statusOf);
    }

    private static void holderOf() {
        Sentences.promise(31);
        Sentences.say("Returns the loan; NONE if no loan holds the hour.");
        SilenceBureau x = Check.loaded("bureau 1 0;street s 0 0;borrower a s 1 99;hours 5;lend a 52 1;lend a 5 2");
        int[][] due = {{5, 1}, {6, 1}, {7, NONE}, {51, NONE}, {52, 0}};
        for (int[] hour : due) {
            Sentences.same("holder of " + hour[0], hour[1], x.holderOf(hour[0]));
        }
        outOfRange("hour is not in the horizon", 5, 52, x::holderOf);
    }

    private static void permitFor() {
        Sentences.promise(32);
        Sentences.say("Returns the permit, the one with the smallest number if several cover the hour;"
                + " NONE if none does.");
        SilenceBureau x = Check.loaded("bureau 1 0;street s 0 0;street t 0 0;hours 5;permit s 7 2;permit s 5 12;"
                + "permit s 8 1;permit t 52 1;permit s 51 2");
        int[][] due = {{5, 1}, {6, 1}, {7, 0}, {8, 0}, {9, 1}, {16, 1}, {17, NONE}, {50, NONE}, {51, 4}, {52, 4}};
        for (int[] hour : due) {
            Sentences.same("permit for " + hour[0], hour[1], x.permitFor(0, hour[0]));
        }
        Sentences.same("in the other street", NONE, x.permitFor(1, 51));
        Sentences.same("the last hour in the other street", 3, x.permitFor(1, 52));
        x.revokePermit(0);
        x.revokePermit(1);
        Sentences.same("two of three are revoked", 2, x.permitFor(0, 8));
        noSuch("street", 2, s -> x.permitFor(s, 5));
        noSuch("street", 2, s -> x.permitFor(s, 53));
        outOfRange("hour is not in the horizon", 5, 52, hour -> x.permitFor(1, hour));
    }

    private static void freeHours() {
        Sentences.promise(33);
        Sentences.say("Returns 0 to 48.");
        SilenceBureau x = Check.loaded("bureau 24 0;street s 0 0;borrower a s 1 99");
        Sentences.same("all hours", 48, x.freeHours());
        for (int start = 0; start < 48; start += 6) {
            x.lend(0, start, 6);
        }
        Sentences.same("no hour", 0, x.freeHours());
        x.advance(1);
        Sentences.same("the new last hour", 1, x.freeHours());
        x.cancel(7);
        Sentences.same("and those of a cancelled loan", 7, x.freeHours());
    }

    private static void quote() {
        Sentences.promise(34);
        Sentences.say("- `length`: 1 to 6");
        Sentences.say("Returns the price.");
        SilenceBureau x = Check.loaded("bureau 1 0;street s 9 99;street t 99 0;borrower a s 1 0;borrower b t 1 0");
        Sentences.same("the least", 1, x.quote(0, 1));
        Sentences.same("the greatest", 60, x.quote(1, 6));
        noSuch("borrower", 2, b -> x.quote(b, 1));
        noSuch("borrower", 2, b -> x.quote(b, 0));
        outOfRange("length is out of range", 1, 6, length -> x.quote(0, length));
    }

    private static void refusal() {
        Sentences.promise(35);
        Sentences.say("- `length`: 1 to 6");
        Sentences.say("Returns the reason, 1 to 5; 0 if the loan would be granted.");
        SilenceBureau x = new SilenceBureau();
        Sentences.same("the first hour, held by a running loan", 3, x.refusal(1, 5, 1));
        Sentences.same("the last hour", 0, x.refusal(2, 52, 1));
        Sentences.same("the last six hours, too dear for cid", 4, x.refusal(2, 47, 6));
        Sentences.same("the last six hours", 0, x.refusal(1, 47, 6));
        noSuch("borrower", 3, b -> x.refusal(b, 20, 1));
        noSuch("borrower", 3, b -> x.refusal(b, 0, 0));
        noSpan((start, length) -> x.refusal(1, start, length));
    }

    private static void refusalCause() {
        Sentences.promise(36);
        Sentences.say("- `length`: 1 to 6");
        Sentences.say("Returns for reason 1 the overdue loan with the smallest number; for reason 2 the permit");
        SilenceBureau x = Check.loaded("bureau 1 0;street s 0 0;borrower a s 1 99;borrower b s 1 99;lend a 2 1;"
                + "lend b 0 1;lend b 1 1;lend b 8 1;lend a 7 1;hours 4;permit s 32 2;permit s 30 3;permit s 30 1");
        Sentences.same("the overdue loan", 0, x.refusalCause(0, 20, 1));
        Sentences.same("the first of two", 1, x.refusalCause(1, 20, 1));
        x.whistle(1);
        Sentences.same("the second", 2, x.refusalCause(1, 20, 1));
        x.whistle(2);
        Sentences.same("the first hour is covered twice", 1, x.refusalCause(1, 29, 6));
        Sentences.same("the first hour of the loan", 0, x.refusalCause(1, 32, 6));
        Sentences.same("the last hour of the loan", 1, x.refusalCause(1, 25, 6));
        Sentences.same("the first hour that cannot be taken", 4, x.refusalCause(1, 7, 2));
        Sentences.same("held by a loan with a smaller number", 3, x.refusalCause(1, 8, 2));
        Sentences.same("no reason", NONE, x.refusalCause(1, 20, 1));
        SilenceBureau y = Check.loaded("bureau 1 0;street s 0 0;borrower a s 1 0;borrower b s 1 5;borrower c s 2 9;"
                + "lend b 9 1;lend c 10 1");
        Sentences.same("six are lacking", 6, y.refusalCause(0, 20, 6));
        Sentences.same("one is lacking", 1, y.refusalCause(1, 20, 5));
        Sentences.same("an hour that can be taken comes before one that cannot", 1, y.refusalCause(1, 10, 1));
        Sentences.same("the hour that c can take is no cause", 1, y.refusalCause(2, 9, 2));
        SilenceBureau z = Check.loaded(Texts.loans(30));
        Sentences.same("too many loans", NONE, z.refusalCause(0, 40, 1));
        SilenceBureau w = new SilenceBureau();
        noSuch("borrower", 3, b -> w.refusalCause(b, 20, 1));
        noSuch("borrower", 3, b -> w.refusalCause(b, 0, 0));
        noSpan((start, length) -> w.refusalCause(1, start, length));
    }

    private static void displacedBy() {
        Sentences.promise(37);
        Sentences.say("- `length`: 1 to 6");
        Sentences.say("Returns the number of planned loans that would be cancelled;"
                + " NONE if the bureau would refuse the new loan.");
        SilenceBureau x = Check.loaded("bureau 1 0;street s 0 0;borrower a s 1 99;borrower b s 2 6;lend a 10 1;"
                + "lend a 11 1;lend a 12 1;lend a 13 1;lend a 14 1;lend a 15 1;lend b 20 1");
        Sentences.same("no loan", 0, x.displacedBy(1, 9, 1));
        Sentences.same("one loan", 1, x.displacedBy(1, 9, 2));
        Sentences.same("five loans", 5, x.displacedBy(1, 11, 5));
        x.pay(1, 1);
        Sentences.same("six loans", 6, x.displacedBy(1, 10, 6));
        Sentences.same("refused for an hour of the same borrower", NONE, x.displacedBy(1, 15, 6));
        Sentences.same("refused for an hour of one more ill", NONE, x.displacedBy(0, 20, 1));
        x.cancel(0);
        Sentences.same("a cancelled loan", 0, x.displacedBy(1, 10, 1));
        SilenceBureau w = new SilenceBureau();
        noSuch("borrower", 3, b -> w.displacedBy(b, 20, 1));
        noSuch("borrower", 3, b -> w.displacedBy(b, 0, 0));
        noSpan((start, length) -> w.displacedBy(1, start, length));
    }

    /** Loans hold the hours 5 to 50 of the horizon 5 to 52, so that two hours are free at its end. */
    private static SilenceBureau nearlyFull(int freeAtEnd) {
        SilenceBureau x = Check.loaded("bureau 24 0;street s 0 0;borrower a s 1 99;borrower b s 2 99;"
                + "borrower c s 2 0;hours 5");
        int end = 53 - freeAtEnd;
        for (int start = 5; start < end; start += 6) {
            x.lend(0, start, Math.min(6, end - start));
        }
        return x;
    }

    private static void earliestStart() {
        Sentences.promise(38);
        Sentences.say("- `length`: 1 to 6");
        Sentences.say("Returns the smallest start; NONE if there is none in the horizon.");
        SilenceBureau x = nearlyFull(2);
        Sentences.same("the last hours", 51, x.earliestStart(0, 2));
        Sentences.same("more than the last hours", NONE, x.earliestStart(0, 3));
        Sentences.same("hours of another borrower", 5, x.earliestStart(1, 6));
        Sentences.same("no credit", NONE, x.earliestStart(2, 1));
        Sentences.same("the last hour", 52, nearlyFull(1).earliestStart(0, 1));
        Sentences.same("no hour", NONE, nearlyFull(0).earliestStart(0, 1));
        SilenceBureau empty = Check.loaded("bureau 1 0;street s 0 0;borrower a s 1 6");
        Sentences.same("the present hour", 0, empty.earliestStart(0, 6));
        empty.grantPermit(0, 0, 12);
        empty.grantPermit(0, 12, 12);
        empty.grantPermit(0, 24, 12);
        empty.grantPermit(0, 36, 6);
        Sentences.same("the last six hours", 42, empty.earliestStart(0, 6));
        empty.grantPermit(0, 47, 1);
        Sentences.same("six hours nowhere", NONE, empty.earliestStart(0, 6));
        Sentences.same("30 loans", NONE, Check.loaded(Texts.loans(30)).earliestStart(0, 1));
        Sentences.same("beyond 9999", 10000, lateWithPermit().earliestStart(0, 6));
        noSuch("borrower", 3, b -> x.earliestStart(b, 1));
        noSuch("borrower", 3, b -> x.earliestStart(b, 0));
        outOfRange("length is out of range", 1, 6, length -> x.earliestStart(0, length));
    }

    private static SilenceBureau lateWithPermit() {
        SilenceBureau late = Texts.atLastClock("bureau 1 0;street s 0 0;borrower a s 1 99");
        late.grantPermit(0, 9999, 1);
        return late;
    }

    private static void earliestPeacefulStart() {
        Sentences.promise(39);
        Sentences.say("- `length`: 1 to 6");
        Sentences.say("Returns the smallest start; NONE if there is none in the horizon.");
        SilenceBureau x = nearlyFull(2);
        Sentences.same("the last hours", 51, x.earliestPeacefulStart(1, 2));
        Sentences.same("more than the last hours", NONE, x.earliestPeacefulStart(1, 3));
        Sentences.same("no credit", NONE, x.earliestPeacefulStart(2, 1));
        Sentences.same("the last hour", 52, nearlyFull(1).earliestPeacefulStart(1, 1));
        Sentences.same("no hour", NONE, nearlyFull(0).earliestPeacefulStart(1, 1));
        SilenceBureau gap = Check.loaded("bureau 1 0;street s 0 0;borrower a s 1 99;borrower b s 2 99;lend a 2 1;"
                + "lend a 6 1");
        Sentences.same("two hours before a loan", 0, gap.earliestPeacefulStart(1, 2));
        Sentences.same("three hours between two loans", 3, gap.earliestPeacefulStart(1, 3));
        Sentences.same("four hours after them", 7, gap.earliestPeacefulStart(1, 4));
        Sentences.same("not in peace", 0, gap.earliestStart(1, 4));
        Sentences.same("30 loans", NONE, Check.loaded(Texts.loans(30)).earliestPeacefulStart(0, 1));
        Sentences.same("beyond 9999", 10000, lateWithPermit().earliestPeacefulStart(0, 6));
        noSuch("borrower", 3, b -> x.earliestPeacefulStart(b, 1));
        noSuch("borrower", 3, b -> x.earliestPeacefulStart(b, 0));
        outOfRange("length is out of range", 1, 6, length -> x.earliestPeacefulStart(0, length));
    }

    private static void illnessAfter() {
        Sentences.promise(40);
        Sentences.say("- `hours`: 0 to 200");
        Sentences.say("Returns the illness after so many hours.");
        SilenceBureau x = Check.loaded("bureau 1 0;street s 80 80;street t 0 0;street u 80 79;borrower a s 0 99;"
                + "borrower b t 9 99;borrower c u 0 99;lend a 30 3");
        Sentences.same("no hour", 0, x.illnessAfter(0, 0));
        Sentences.same("eleven hours of strain", 0, x.illnessAfter(0, 11));
        Sentences.same("twelve hours of strain", 1, x.illnessAfter(0, 12));
        Sentences.same("three hours of a planned loan", 2, x.illnessAfter(0, 38));
        Sentences.same("one hour more", 3, x.illnessAfter(0, 39));
        Sentences.same("not above 9", 9, x.illnessAfter(0, 200));
        Sentences.same("five hours of rest", 9, x.illnessAfter(1, 5));
        Sentences.same("six hours of rest", 8, x.illnessAfter(1, 6));
        Sentences.same("not below 0", 0, x.illnessAfter(1, 200));
        Sentences.same("eleven day hours", 0, x.illnessAfter(2, 17));
        Sentences.same("twelve day hours", 1, x.illnessAfter(2, 18));
        Sentences.same("16 + 16 + 16 + 3 day hours", 4, x.illnessAfter(2, 81));
        Sentences.say("The clock may exceed 9999 in the forecast.");
        SilenceBureau late = Texts.atLastClock("bureau 1 0;street u 80 79;borrower c u 0 99");
        Sentences.same("200 hours after the last clock", 9, late.illnessAfter(0, 200));
        SilenceBureau lateRest = Texts.atLastClock("bureau 1 0;street s 99 99;borrower a s 0 99");
        lateRest.lend(0, 10000, 6);
        Sentences.same("five hours of a loan beyond 9999", 9, lateRest.illnessAfter(0, 6));
        Sentences.same("six hours of it", 8, lateRest.illnessAfter(0, 7));
        Sentences.same("the clock stays", 9999, late.clock());
        noSuch("borrower", 3, b -> x.illnessAfter(b, 0));
        noSuch("borrower", 3, b -> x.illnessAfter(b, 201));
        outOfRange("hours is out of range", 0, 200, hours -> x.illnessAfter(0, hours));
    }

    private static void meanNoise() {
        Sentences.promise(41);
        Sentences.say("Returns the noise total as a double, divided by the clock as a double; 0.0 if the clock is 0.");
        SilenceBureau x = Check.loaded("bureau 1 0;street s 10 1;street t 0 0");
        Sentences.same("at clock 0", 0.0, x.meanNoise(0));
        x.advance(1);
        Sentences.same("at clock 1", 1.0, x.meanNoise(0));
        x.advance(6);
        Sentences.same("with a fraction", 16.0 / 7.0, x.meanNoise(0));
        Sentences.same("without noise", 0.0, x.meanNoise(1));
        Sentences.same("at the last clock", 99.0, Texts.atLastClock("bureau 1 0;street s 99 99").meanNoise(0));
        noSuch("street", 2, x::meanNoise);
        noSuch("street", 0, Check.loaded("bureau 1 0")::meanNoise);
    }

    private static void lentShare() {
        Sentences.promise(42);
        Sentences.say("Returns the number of hours of the horizon that a loan holds as a float, divided by 48 as a "
                + "float.");
        Sentences.same("nothing is lent", 0.0f, Check.loaded("bureau 1 0").lentShare());
        Sentences.same("all is lent", 1.0f, nearlyFull(0).lentShare());
        Sentences.same("all but an hour", 47.0f / 48.0f, nearlyFull(1).lentShare());
        Sentences.same("an hour", 1.0f / 48.0f, Check.loaded("bureau 1 0;street s 0 0;borrower a s 1 1;"
                + "lend a 47 1").lentShare());
    }

    private static void ledgerDifference() {
        Sentences.promise(43);
        Sentences.say("Returns the absolute value of: the credits of all borrowers, minus all credits they were given");
        Sentences.same("without borrowers", 0, Check.loaded("bureau 1 0").ledgerDifference());
        SilenceBureau x = Check.loaded("bureau 1 99;street s 99 0;borrower a s 1 60;borrower b s 2 60;lend a 0 6;"
                + "hours 7");
        Sentences.same("a negative credit", -99, x.creditOf(0));
        Sentences.same("after a fee", 0, x.ledgerDifference());
        x.pay(0, 999);
        Sentences.same("after a payment", 0, x.ledgerDifference());
        x.whistle(0);
        x.lend(0, 20, 2);
        x.lend(1, 21, 3);
        Sentences.same("after a displacement", 0, x.ledgerDifference());
        x.cancel(2);
        Sentences.same("after a refund", 0, x.ledgerDifference());
        for (int left = x.undoCount(); left > 0; left--) {
            x.undo();
            Sentences.same("after undo", 0, x.ledgerDifference());
        }
        Sentences.same("with everything lent", 0, nearlyFull(0).ledgerDifference());
    }
}
