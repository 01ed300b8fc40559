/** The boundaries of the terms: clock, streets, borrowers, permits, loans, one hour. */
final class TermsEdges {
    private static final int PLANNED = SilenceBureau.PLANNED;
    private static final int RUNNING = SilenceBureau.RUNNING;
    private static final int ENDED = SilenceBureau.ENDED;
    private static final int RETURNED = SilenceBureau.RETURNED;
    private static final int OVERDUE = SilenceBureau.OVERDUE;
    private static final int CANCELLED = SilenceBureau.CANCELLED;
    private static final int NONE = SilenceBureau.NONE;

    private TermsEdges() {
    }

    static void run() {
        Sentences.promise(0);
        division();
        clock();
        horizon();
        streets();
        borrowers();
        names();
        permits();
        permitHours();
        loans();
        loanLife();
        holding();
        reasonsInOrder();
        eachReason();
        displacing();
        hourOfLoans();
        hourOfNoise();
        rest();
        strain();
        bothCounters();
        endAndGrace();
    }

    private static void division() {
        Sentences.say("Every division truncates.");
        SilenceBureau x = Check.loaded("bureau 1 0;street a 9 0;street b 10 0;street c 19 0;street d 20 0;"
                + "borrower a a 0 0;borrower b b 0 0;borrower c c 0 0;borrower d d 0 0");
        int[] perHour = {1, 2, 2, 3};
        for (int b = 0; b < perHour.length; b++) {
            Sentences.same("price of an hour for " + b, perHour[b], x.quote(b, 1));
        }
        Sentences.say("The price of a loan is its length times");
        SilenceBureau y = Check.loaded("bureau 1 0;street a 0 99;street b 99 0;borrower a a 0 99;borrower b b 0 99");
        Sentences.same("the least noise, the shortest loan", 1, y.quote(0, 1));
        Sentences.same("the least noise, the longest loan", 6, y.quote(0, 6));
        Sentences.same("the greatest noise, the shortest loan", 10, y.quote(1, 1));
        Sentences.same("the greatest noise, the longest loan", 60, y.quote(1, 6));
    }

    private static void clock() {
        Sentences.say("The clock is the number of hours that have passed, 0 to 9999.");
        Sentences.same("the first value", 0, Check.loaded("bureau 1 0").clock());
        SilenceBureau x = Texts.atLastClock("bureau 1 0;street s 7 3");
        Sentences.throwing("no hour passes after the last value", Check.STATE, () -> x.advance(1));
        Sentences.say("The hour of the day of a clock value is that value modulo 24.");
        Sentences.same("9999 is 15 o'clock", false, x.isNight());
        Sentences.same("10005 is 21 o'clock", 7, x.noiseAt(0, 10005));
        Sentences.same("10006 is 22 o'clock", 3, x.noiseAt(0, 10006));
        Sentences.same("10013 is 5 o'clock", 3, x.noiseAt(0, 10013));
        Sentences.same("10014 is 6 o'clock", 7, x.noiseAt(0, 10014));
        Sentences.say("The night consists of the hours of the day 0 to 5, 22 and 23.");
        Sentences.say("All other hours of the day are day hours.");
        SilenceBureau y = Check.loaded("bureau 1 0;street s 7 3");
        int[][] noise = {{0, 3}, {5, 3}, {6, 7}, {21, 7}, {22, 3}, {23, 3}, {24, 3}, {29, 3}, {30, 7}, {45, 7}, {46, 3}};
        for (int[] hour : noise) {
            Sentences.same("noise at " + hour[0], hour[1], y.noiseAt(0, hour[0]));
        }
        for (int hour = 0; hour < 31; hour++) {
            boolean night = hour <= 5 || hour >= 22 && hour <= 29;
            Sentences.same("night at " + hour, night, y.isNight());
            y.advance(1);
        }
    }

    private static void horizon() {
        Sentences.say("The horizon consists of the 48 hours that begin with the present one:");
        Sentences.say("the clock values from the clock to the clock plus 47.");
        SilenceBureau x = new SilenceBureau();
        horizonFrom(x, 5, 0);
        x.advance(1);
        horizonFrom(x, 6, 1);
        horizonFrom(Check.loaded("bureau 1 0"), 0, NONE);
        horizonFrom(Texts.atLastClock("bureau 1 0"), 9999, NONE);
    }

    private static void horizonFrom(SilenceBureau x, int clock, int holder) {
        Sentences.throwing("the hour before " + clock, Check.ARGUMENT, () -> x.holderOf(clock - 1));
        Sentences.same("the hour " + clock, holder, x.holderOf(clock));
        Sentences.same("the last hour from " + clock, NONE, x.holderOf(clock + 47));
        Sentences.throwing("the 49th hour from " + clock, Check.ARGUMENT, () -> x.holderOf(clock + 48));
    }

    private static void streets() {
        Sentences.say("There are at most 8 streets, numbered from 0.");
        SilenceBureau x = Check.loaded(Texts.streets(8, "1 1"));
        Sentences.same("eight streets", 8, x.streetCount());
        Sentences.same("street 0", 1, x.noiseNow(0));
        Sentences.same("street 7", 1, x.noiseNow(7));
        Sentences.throwing("street 8", Check.INDEX, () -> x.noiseNow(8));
        Texts.bad(5, Texts.streets(8, "1 1") + ";|street i 1 1");
        Sentences.say("A street has a name, a day noise and a night noise (0 to 99 each).");
        SilenceBureau y = Check.loaded("bureau 1 0;street a 0 99;street b 99 0");
        Sentences.same("the greatest night noise", 99, y.noiseAt(0, 0));
        Sentences.same("the least day noise", 0, y.noiseAt(0, 6));
        Sentences.same("the least night noise", 0, y.noiseAt(1, 0));
        Sentences.same("the greatest day noise", 99, y.noiseAt(1, 6));
        Texts.bad(2, "bureau 1 0;street a |100 0");
        Texts.bad(2, "bureau 1 0;street a 0 |100");
    }

    private static void borrowers() {
        Sentences.say("There are at most 12 borrowers, numbered from 0.");
        SilenceBureau x = Check.loaded(Texts.borrowers(12));
        Sentences.same("twelve borrowers", 12, x.borrowerCount());
        Sentences.same("borrower 0", "a@s 1 1", Check.output(x, x.writeBorrower(0)));
        Sentences.same("borrower 11", "l@s 1 1", Check.output(x, x.writeBorrower(11)));
        Sentences.throwing("borrower 12", Check.INDEX, () -> x.writeBorrower(12));
        Texts.bad(5, Texts.borrowers(12) + ";|borrower m s 1 1");
        Sentences.say("A borrower has a name, a street, an illness (0 to 9) and a credit, which may be negative.");
        SilenceBureau y = Check.loaded("bureau 1 99;street s 0 0;borrower a s 0 1;borrower b s 9 999;lend a 0 1;"
                + "hours 2");
        Sentences.same("the least illness", 0, y.illnessOf(0));
        Sentences.same("the greatest illness", 9, y.illnessOf(1));
        Sentences.same("a negative credit", -99, y.creditOf(0));
        Sentences.same("a borrower with a negative credit pays", -98, y.pay(0, 1));
        Texts.bad(2, Texts.borrowers(0) + ";borrower a s |10 0");
    }

    private static void names() {
        Sentences.say("A name has 1 to 6 letters from a to z.");
        SilenceBureau x = Check.loaded("bureau 1 0;street a 0 0;street azbycx 0 0;borrower z azbycx 1 1;"
                + "borrower zzzzzz a 1 1;borrower aaaaaa a 1 1;borrower a a 1 1");
        String[] due = {"z@azbycx 1 1", "zzzzzz@a 1 1", "aaaaaa@a 1 1", "a@a 1 1"};
        for (int b = 0; b < due.length; b++) {
            Sentences.same("borrower " + b, due[b], Check.output(x, x.writeBorrower(b)));
        }
        Texts.bad(1, "bureau 1 0;street |azbycxd 0 0");
        Texts.bad(1, "bureau 1 0;street |; 0 0");
        Texts.bad(1, "bureau 1 0;street |` 0 0");
        Texts.bad(1, "bureau 1 0;street |{ 0 0");
        Texts.bad(1, "bureau 1 0;street |A 0 0");
        Texts.bad(1, "bureau 1 0;street a|{ 0 0");
        Sentences.say("No two streets have the same name, and no two borrowers have the same name.");
        Texts.bad(4, "bureau 1 0;street a 0 0;street b 0 0;street |a 1 1");
        Texts.bad(4, "bureau 1 0;street s 0 0;borrower a s 0 0;borrower b s 0 0;borrower |b s 1 1");
        Texts.good("bureau 1 0;street a 0 0;borrower a a 0 0;street aa 0 0;borrower aa a 0 0");
    }

    private static void permits() {
        Sentences.say("There are at most 10 permits, numbered from 0 in the order in which they were granted.");
        SilenceBureau x = Check.loaded("bureau 1 0;street s 0 0;permit s 9 1;permit s 3 1");
        Sentences.same("the first in the order of granting", 0, x.permitFor(0, 9));
        Sentences.same("the second", 1, x.permitFor(0, 3));
        for (int i = 2; i < 10; i++) {
            Sentences.same("the number of the next", i, x.grantPermit(0, 12 - i, 1));
        }
        Sentences.throwing("an 11th permit", Check.STATE, () -> x.grantPermit(0, 20, 1));
        Sentences.say("A permit allows drums in one street for 1 to 12 consecutive hours.");
        SilenceBureau y = Check.loaded("bureau 1 0;street s 1 1;street t 1 1");
        Sentences.throwing("no hour", Check.ARGUMENT, () -> y.grantPermit(0, 9, 0));
        Sentences.throwing("13 hours", Check.ARGUMENT, () -> y.grantPermit(0, 9, 13));
        Sentences.same("one hour", 0, y.grantPermit(0, 9, 1));
        Sentences.same("12 hours", 1, y.grantPermit(1, 9, 12));
        Sentences.same("drums in the street", 41, y.noiseAt(0, 9));
        Sentences.same("for one hour", 1, y.noiseAt(0, 10));
        Sentences.same("drums in the other street", 41, y.noiseAt(1, 20));
        Sentences.same("for twelve hours", 1, y.noiseAt(1, 21));
        Sentences.say("Permits are never removed from the list.");
        y.revokePermit(0);
        y.advance(30);
        Sentences.same("a revoked and a past permit", 2, y.permitCount());
        Sentences.same("their numbers are not used again", 2, y.grantPermit(0, 40, 1));
    }

    private static void permitHours() {
        Sentences.say("A permit that is revoked covers no hours any more.");
        SilenceBureau x = Check.loaded("bureau 1 0;street s 1 1;street t 1 1;permit s 3 4;permit s 20 2;hours 4");
        x.revokePermit(0);
        Sentences.same("the present hour", NONE, x.permitFor(0, 4));
        Sentences.same("its last hour", NONE, x.permitFor(0, 6));
        Sentences.same("the noise", 1, x.noiseNow(0));
        Sentences.same("the hours it has covered stay noisy", 44, x.noiseTotal(0));
        Sentences.say("A permit covers an hour of a street if it is a permit of this street, it is not revoked");
        Sentences.same("the hour before", NONE, x.permitFor(0, 19));
        Sentences.same("the first hour", 1, x.permitFor(0, 20));
        Sentences.same("the last hour", 1, x.permitFor(0, 21));
        Sentences.same("the hour after", NONE, x.permitFor(0, 22));
        Sentences.same("another street", NONE, x.permitFor(1, 20));
        x.revokePermit(1);
        Sentences.same("a revoked permit", NONE, x.permitFor(0, 20));
    }

    private static void loans() {
        Sentences.say("There are at most 30 loans, numbered from 0 in the order in which they were granted.");
        SilenceBureau x = Check.loaded(Texts.loans(28));
        Sentences.same("the 29th loan", 28, x.lend(0, 45, 1));
        Sentences.same("the 30th loan", 29, x.lend(0, 40, 1));
        Sentences.throwing("a 31st loan", Check.STATE, () -> x.lend(0, 41, 1));
        Sentences.same("thirty loans", 30, x.loanCount());
        Sentences.same("the number is that of the granting", 45, x.startOf(28));
        Sentences.same("the last", 40, x.startOf(29));
        Sentences.throwing("loan 30", Check.INDEX, () -> x.startOf(30));
        Sentences.say("It has a start, a length of 1 to 6 hours, a price and a status.");
        SilenceBureau z = Check.loaded(Texts.loans(0));
        Sentences.throwing("no hour", Check.ARGUMENT, () -> z.lend(0, 9, 0));
        Sentences.throwing("seven hours", Check.ARGUMENT, () -> z.lend(0, 9, 7));
        Sentences.same("one hour", 0, z.lend(0, 9, 1));
        Sentences.same("six hours", 1, z.lend(0, 10, 6));
        Sentences.say("The end of a loan is its start plus its length.");
        SilenceBureau y = Check.loaded("bureau 24 0;street s 0 0;borrower a s 1 99;lend a 3 1;lend a 4 6;hours 10");
        Sentences.same("hours since the end of the short one", 6, y.whistle(0));
        Sentences.same("hours since the end of the long one", 0, y.whistle(1));
    }

    private static void loanLife() {
        Sentences.say("A loan is planned when it is granted, running from its start to its end, and ended after that.");
        SilenceBureau x = Check.loaded("bureau 2 0;street s 0 0;borrower a s 1 99;lend a 0 1;lend a 3 2");
        int[] shortLoan = {PLANNED, ENDED, ENDED, OVERDUE, OVERDUE, OVERDUE, OVERDUE, OVERDUE};
        int[] longLoan = {PLANNED, PLANNED, PLANNED, PLANNED, RUNNING, ENDED, ENDED, OVERDUE};
        for (int clock = 0; clock < longLoan.length; clock++) {
            Sentences.same("an hour long, at " + clock, shortLoan[clock], x.statusOf(0));
            Sentences.same("two hours long, at " + clock, longLoan[clock], x.statusOf(1));
            x.advance(1);
        }
        Sentences.say("An ended loan becomes returned by a whistle, or overdue when the grace period is over.");
        graceOf(1);
        graceOf(24);
        Sentences.say("An overdue loan becomes returned by a whistle, too.");
        x.whistle(1);
        Sentences.same("returned after being overdue", RETURNED, x.statusOf(1));
        Sentences.say("A planned loan may be cancelled.");
        SilenceBureau y = Check.loaded("bureau 24 0;street s 0 0;borrower a s 1 99;lend a 1 1;hours 1");
        y.cancel(0);
        Sentences.same("cancelled in the hour of its start", CANCELLED, y.statusOf(0));
        y.undo();
        y.advance(1);
        Sentences.throwing("cancelled an hour later", Check.STATE, () -> y.cancel(0));
    }

    private static void graceOf(int grace) {
        SilenceBureau x = Check.loaded("bureau " + grace + " 7;street s 0 0;borrower a s 1 7;lend a 0 1;lend a 1 1;"
                + "hours 1");
        x.whistle(0);
        Sentences.same("returned in the hour of its end", RETURNED, x.statusOf(0));
        x.advance(grace);
        Sentences.same("ended, an hour before the grace is over", ENDED, x.statusOf(1));
        Sentences.same("no fee yet", 5, x.creditOf(0));
        x.advance(1);
        Sentences.same("overdue when the grace is over", OVERDUE, x.statusOf(1));
        Sentences.same("the fee", -2, x.creditOf(0));
        Sentences.same("the other one stays returned", RETURNED, x.statusOf(0));
        x.undo();
        x.whistle(1);
        x.advance(1);
        Sentences.same("returned in the last hour of the grace", RETURNED, x.statusOf(1));
        Sentences.same("without a fee", 5, x.creditOf(0));
    }

    private static void holding() {
        Sentences.say("A planned or running loan holds each of its hours.");
        SilenceBureau x = Check.loaded("bureau 24 0;street s 0 0;borrower a s 1 99;lend a 3 3;lend a 10 1");
        int[] holders = {NONE, NONE, NONE, 0, 0, 0, NONE, NONE, NONE, NONE, 1, NONE};
        for (int hour = 0; hour < holders.length; hour++) {
            Sentences.same("holder of " + hour, holders[hour], x.holderOf(hour));
        }
        x.advance(5);
        Sentences.same("the last hour of a running loan", 0, x.holderOf(5));
        Sentences.same("the hour after it", NONE, x.holderOf(6));
        x.cancel(1);
        Sentences.same("a cancelled loan holds nothing", NONE, x.holderOf(10));
        x.advance(1);
        Sentences.same("an ended loan holds nothing", 48, x.freeHours());
        Sentences.say("No two loans hold the same hour.");
        Sentences.say("An hour of silence is lent to one street only.");
        SilenceBureau y = Check.loaded("bureau 24 0;street s 0 0;street t 5 5;borrower a s 1 99;borrower b t 1 99;"
                + "borrower c t 2 99;lend a 10 3");
        Sentences.throwing("the last hour, by another street", Check.STATE, () -> y.lend(1, 12, 1));
        Sentences.throwing("the first hour, by another street", Check.STATE, () -> y.lend(1, 5, 6));
        Sentences.same("up to the first hour", 1, y.lend(1, 5, 5));
        Sentences.same("from the end", 2, y.lend(1, 13, 1));
        Sentences.same("by an ill one", 3, y.lend(2, 12, 2));
        int[] after = {NONE, NONE, 3, 3, NONE};
        for (int i = 0; i < after.length; i++) {
            Sentences.same("holder of " + (10 + i), after[i], y.holderOf(10 + i));
        }
        Sentences.same("the street that lost it", 0, y.noiseAt(0, 12));
        Sentences.same("the street that got it", 0, y.noiseAt(1, 12));
        Sentences.same("and had none", 5, y.noiseAt(1, 11));
    }

    /** All five reasons apply, and are taken away one by one. */
    private static void reasonsInOrder() {
        Sentences.say("Reason 1: the borrower has an overdue loan.");
        StringBuilder text = new StringBuilder("bureau 1 9;street s 0 0;street t 0 0;borrower a s 5 1;"
                + "borrower b t 5 99;lend a 0 1;hours 2;permit s 40 1");
        for (int start = 3; start < 31; start++) {
            text.append(";lend b ").append(start).append(" 1");
        }
        SilenceBureau x = Check.loaded(text + ";lend b 40 1");
        Sentences.same("thirty loans", 30, x.loanCount());
        refused(x, 1, 0);
        x.whistle(0);
        refused(x, 2, 0);
        x.revokePermit(0);
        refused(x, 3, 29);
        x.cancel(29);
        refused(x, 4, 10);
        x.pay(0, 10);
        refused(x, 5, NONE);
    }

    private static void refused(SilenceBureau x, int reason, int cause) {
        Sentences.same("reason", reason, x.refusal(0, 40, 1));
        Sentences.same("cause of reason " + reason, cause, x.refusalCause(0, 40, 1));
        Sentences.same("nothing displaced by reason " + reason, NONE, x.displacedBy(0, 40, 1));
        Sentences.throwing("lend with reason " + reason, Check.STATE, () -> x.lend(0, 40, 1));
    }

    private static void eachReason() {
        Sentences.say("Reason 1: the borrower has an overdue loan.");
        SilenceBureau x = Check.loaded("bureau 2 0;street s 0 0;borrower a s 1 99;borrower b s 1 99;lend a 0 1;"
                + "hours 2");
        Sentences.same("a loan that ended is no reason", 0, x.refusal(0, 9, 1));
        x.advance(1);
        Sentences.same("an overdue one is", 1, x.refusal(0, 9, 1));
        Sentences.same("for its borrower alone", 0, x.refusal(1, 9, 1));
        Sentences.say("Reason 2: a permit covers one of the hours of the loan in the street of the borrower.");
        SilenceBureau y = Check.loaded("bureau 1 0;street s 0 0;street t 0 0;borrower a s 1 99;borrower b t 1 99;"
                + "permit s 10 2");
        Sentences.same("up to the first covered hour", 0, y.refusal(0, 8, 2));
        Sentences.same("with the first covered hour", 2, y.refusal(0, 8, 3));
        Sentences.same("with the last covered hour", 2, y.refusal(0, 11, 3));
        Sentences.same("after the last covered hour", 0, y.refusal(0, 12, 3));
        Sentences.same("around the permit", 2, y.refusal(0, 8, 6));
        Sentences.same("in another street", 0, y.refusal(1, 8, 6));
        Sentences.say("Reason 3: one of the hours is held by a loan that is running, or by a planned loan whose "
                + "borrower");
        SilenceBureau z = Check.loaded("bureau 1 0;street s 1 1;borrower a s 5 99;borrower b s 4 99;borrower c s 6 99;"
                + "borrower d s 5 99;lend a 0 3;lend a 10 2;hours 1");
        Sentences.same("a running loan of a healthier one", 3, z.refusal(2, 2, 1));
        Sentences.same("a planned loan of one more ill", 3, z.refusal(1, 11, 1));
        Sentences.same("of one as ill", 3, z.refusal(3, 11, 1));
        Sentences.same("of a healthier one", 0, z.refusal(2, 11, 1));
        Sentences.same("of the same borrower", 3, z.refusal(0, 11, 1));
        Sentences.same("a running loan of the same borrower", 3, z.refusal(0, 2, 1));
        Sentences.say("Reason 4: the credit of the borrower is less than the price.");
        SilenceBureau w = Check.loaded("bureau 1 0;street s 20 0;borrower a s 5 6;borrower b s 5 5;borrower c s 5 0");
        Sentences.same("as much as the price", 0, w.refusal(0, 9, 2));
        Sentences.same("one less than the price", 4, w.refusal(1, 9, 2));
        Sentences.same("nothing", 4, w.refusal(2, 9, 1));
        Sentences.say("Reason 5: there are 30 loans.");
        SilenceBureau v = Check.loaded(Texts.loans(29));
        Sentences.same("29 loans", 0, v.refusal(0, 40, 1));
        v.lend(0, 40, 1);
        Sentences.same("30 loans", 5, v.refusal(0, 41, 1));
        v.cancel(29);
        Sentences.same("a cancelled loan counts", 5, v.refusal(0, 40, 1));
    }

    private static void displacing() {
        Sentences.say("When a loan is granted, every planned loan that holds one of its hours is displaced:");
        Sentences.say("Ill borrowers displace healthier ones");
        SilenceBureau x = Check.loaded("bureau 1 0;street s 20 0;street t 0 0;borrower a s 1 99;borrower b t 2 5;"
                + "borrower c s 3 18;lend a 8 2;lend a 10 1;lend b 12 2;lend a 15 1");
        Sentences.same("credit of the first borrower", 99 - 12, x.creditOf(0));
        Sentences.same("the new loan", 4, x.lend(2, 9, 6));
        int[] status = {CANCELLED, CANCELLED, CANCELLED, PLANNED, PLANNED};
        for (int i = 0; i < status.length; i++) {
            Sentences.same("status of loan " + i, status[i], x.statusOf(i));
        }
        Sentences.say("that loan is cancelled, and its price is refunded to its borrower.");
        Sentences.same("refunded for two loans", 99 - 3, x.creditOf(0));
        Sentences.same("refunded for one loan", 5, x.creditOf(1));
        Sentences.same("an hour that nobody holds any more", NONE, x.holderOf(8));
        Sentences.say("Then the price of the new loan is subtracted from the credit of its borrower.");
        Sentences.same("all its credit", 0, x.creditOf(2));
    }

    private static void hourOfLoans() {
        Sentences.say("1. Each planned loan whose start is the clock becomes running.");
        SilenceBureau x = Check.loaded("bureau 24 0;street s 9 9;borrower a s 1 99;lend a 0 2;lend a 2 2");
        x.advance(1);
        Sentences.same("the loan of the hour", RUNNING, x.statusOf(0));
        Sentences.same("the next one", PLANNED, x.statusOf(1));
        x.cancel(1);
        x.advance(2);
        Sentences.same("a cancelled loan does not begin", CANCELLED, x.statusOf(1));
        Sentences.same("and silences nothing", 9, x.noiseTotal(0));
    }

    private static void hourOfNoise() {
        Sentences.say("2. The noise of each street in this hour is determined:");
        Sentences.say("0 if a running loan belongs to this street; otherwise the night noise or the day noise");
        SilenceBureau x = Check.loaded("bureau 24 0;street s 9 4;street t 90 50;borrower a s 1 99;lend a 6 1;"
                + "permit t 5 2;hours 5");
        Sentences.say("The noise is added to the noise total of the street.");
        Sentences.same("five hours of the night", 20, x.noiseTotal(0));
        Sentences.same("in the other street", 250, x.noiseTotal(1));
        x.advance(1);
        Sentences.same("the last hour of the night", 24, x.noiseTotal(0));
        Sentences.same("with drums", 340, x.noiseTotal(1));
        x.advance(1);
        Sentences.same("a loan silences the first hour of the day", 24, x.noiseTotal(0));
        Sentences.same("but not the drums of the other street", 470, x.noiseTotal(1));
        x.advance(1);
        Sentences.same("after the loan", 33, x.noiseTotal(0));
        Sentences.same("after the drums", 560, x.noiseTotal(1));
        Sentences.say("If a running loan belongs to the street, its quiet hours increase by 1.");
        Sentences.same("the street of the loan", 1, x.quietHours(0));
        Sentences.same("the other street", 0, x.quietHours(1));
        SilenceBureau still = Check.loaded("bureau 24 0;street s 0 0;hours 9");
        Sentences.same("silence without a loan is no quiet hour", 0, still.quietHours(0));
    }

    private static void rest() {
        Sentences.say("3. For each borrower, if the noise of the borrower's street is 0, the rest counter increases "
                + "by 1.");
        SilenceBureau x = Check.loaded("bureau 1 0;street s 0 0;street t 1 1;borrower a s 3 9;borrower b t 3 9;"
                + "borrower c s 1 9;borrower d s 0 9;hours 5");
        Sentences.say("If the rest counter is 6 now, it becomes 0, and the illness decreases by 1, but not below 0.");
        illness(x, 3, 3, 1, 0);
        x.advance(1);
        illness(x, 2, 3, 0, 0);
        x.advance(5);
        illness(x, 2, 3, 0, 0);
        x.advance(1);
        illness(x, 1, 3, 0, 0);
        x.advance(6);
        illness(x, 0, 3, 0, 0);
        x.advance(6);
        illness(x, 0, 3, 0, 0);
    }

    private static void strain() {
        Sentences.say("If the noise is 80 or more, the strain counter increases by 1.");
        Sentences.say("If the strain counter is 12 now, it becomes 0, and the illness increases by 1, but not above "
                + "9.");
        Sentences.say("Both counters are 0 for a new borrower.");
        SilenceBureau x = Check.loaded("bureau 1 0;street s 80 80;street t 79 79;borrower a s 7 9;borrower b t 7 9;"
                + "borrower c s 8 9;borrower d s 9 9;hours 11");
        illness(x, 7, 7, 8, 9);
        x.advance(1);
        illness(x, 8, 7, 9, 9);
        x.advance(11);
        illness(x, 8, 7, 9, 9);
        x.advance(1);
        illness(x, 9, 7, 9, 9);
        x.advance(12);
        illness(x, 9, 7, 9, 9);
        SilenceBureau late = Check.loaded("bureau 1 0;street s 80 80;borrower a s 1 9;hours 6;borrower b s 1 9;"
                + "hours 6");
        Sentences.same("the first borrower", 2, late.illnessOf(0));
        Sentences.same("a borrower of half the time", 1, late.illnessOf(1));
        late.advance(6);
        Sentences.same("twelve hours of its own", 2, late.illnessOf(1));
    }

    private static void illness(SilenceBureau x, int... due) {
        for (int b = 0; b < due.length; b++) {
            Sentences.same("illness of " + b + " at " + x.clock(), due[b], x.illnessOf(b));
        }
    }

    /** Nights of 8 hours without noise, days of 16 loud hours, so that the counters grow by turns. */
    private static void bothCounters() {
        Sentences.say("If the rest counter is 6 now, it becomes 0");
        SilenceBureau x = Check.loaded("bureau 1 0;street s 80 0;borrower a s 0 9");
        // rest: 0 to 5 (6, so it begins anew), 22 and 23 (2), 24 to 27 (6); strain: 6 to 17 (12), 18 to 21 (4)
        x.advance(18);
        Sentences.same("a rest at illness 0 begins the count anew", 1, x.illnessOf(0));
        x.advance(9);
        Sentences.same("five hours of rest, with strain between them", 1, x.illnessOf(0));
        x.advance(1);
        Sentences.same("six of them", 0, x.illnessOf(0));
        Sentences.say("If the strain counter is 12 now, it becomes 0");
        x.advance(9);
        Sentences.same("eleven hours of strain, with rest between them", 0, x.illnessOf(0));
        x.advance(1);
        Sentences.same("twelve of them", 1, x.illnessOf(0));
        SilenceBureau y = Check.loaded("bureau 1 0;street s 80 0;borrower a s 9 9;hours 6");
        Sentences.same("healed at night", 8, y.illnessOf(0));
        y.advance(12);
        Sentences.same("ill by day", 9, y.illnessOf(0));
        SilenceBureau z = Check.loaded("bureau 1 0;street s 80 80;borrower a s 9 999;hours 12;lend a 12 6;hours 6");
        Sentences.same("healed after a strain at illness 9", 8, z.illnessOf(0));
        z.advance(11);
        Sentences.same("that strain began the count anew", 8, z.illnessOf(0));
        z.advance(1);
        Sentences.same("twelve hours of strain", 9, z.illnessOf(0));
    }

    private static void endAndGrace() {
        Sentences.say("4. The clock increases by 1.");
        Sentences.say("Each running loan whose end is the clock now becomes ended.");
        SilenceBureau x = Check.loaded("bureau 1 8;street s 0 0;borrower a s 9 9;borrower b s 9 99;lend a 0 2;"
                + "lend b 2 1");
        x.advance(1);
        Sentences.same("the clock", 1, x.clock());
        Sentences.same("an hour before its end", RUNNING, x.statusOf(0));
        x.advance(1);
        Sentences.same("at its end", ENDED, x.statusOf(0));
        Sentences.same("the next has not begun", PLANNED, x.statusOf(1));
        Sentences.say("5. Each ended loan becomes overdue if the clock is its end plus the grace period.");
        Sentences.same("one becomes overdue", 1, x.advance(1));
        Sentences.same("overdue", OVERDUE, x.statusOf(0));
        Sentences.same("the next ends in the same hour", ENDED, x.statusOf(1));
        Sentences.say("The late fee is subtracted from the credit of its borrower.");
        Sentences.same("from its borrower", -1, x.creditOf(0));
        Sentences.same("from no other", 98, x.creditOf(1));
        x.advance(1);
        Sentences.same("once only", -1, x.creditOf(0));
        Sentences.same("from the other one", 90, x.creditOf(1));
        SilenceBureau free = Check.loaded("bureau 1 0;street s 0 0;borrower a s 9 9;lend a 0 1;hours 2");
        Sentences.same("a fee of 0", 8, free.creditOf(0));
        Sentences.same("is charged for an overdue loan too", OVERDUE, free.statusOf(0));
    }
}
