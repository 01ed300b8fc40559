/** Promises 6 to 20: the bureau and its streets. */
final class BureauTest {
    public static void main(String[] args) {
        night();
        counts();
        loansWith();
        noise();
        noiseTotals();
        loudest();
        wrongStreets();
        Check.end("BureauTest");
    }

    private static void night() {
        SilenceBureau x = Check.loaded("bureau 1 0");
        for (int hour = 0; hour < 60; hour++) {
            int ofDay = hour % 24;
            Check.same("clock", hour, x.clock());
            Check.same("night at " + hour, ofDay <= 5 || ofDay == 22 || ofDay == 23, x.isNight());
            x.advance(1);
        }
    }

    private static void counts() {
        SilenceBureau x = Check.loaded("bureau 24 99;street a 1 1;street b 1 1;street c 1 1;borrower d a 1 99;"
                + "borrower e a 1 99;permit a 3 1;permit b 3 1;permit c 3 1;permit c 3 1;lend d 5 1");
        Check.same("grace period", 24, x.gracePeriod());
        Check.same("late fee", 99, x.lateFee());
        Check.same("streets", 3, x.streetCount());
        Check.same("borrowers", 2, x.borrowerCount());
        Check.same("loans", 1, x.loanCount());
        Check.same("permits", 4, x.permitCount());
        x.revokePermit(2);
        Check.same("permits with a revoked one", 4, x.permitCount());
        x.cancel(0);
        Check.same("loans with a cancelled one", 1, x.loanCount());
        SilenceBureau none = Check.loaded("bureau 1 0");
        Check.same("no streets", 0, none.streetCount());
        Check.same("no borrowers", 0, none.borrowerCount());
        Check.same("no loans", 0, none.loanCount());
        Check.same("no permits", 0, none.permitCount());
    }

    private static void loansWith() {
        SilenceBureau x = Check.loaded("bureau 2 5;street s 0 0;borrower a s 1 99;borrower b s 2 99;borrower c s 3 99;"
                + "lend c 0 1;lend a 1 1;lend b 4 2;lend c 6 1;lend a 7 1;lend b 7 1;lend a 9 1;hours 2;whistle 0;hours 3");
        // 0 returned, 1 overdue (ended at 2), 2 running, 3 planned, 4 cancelled, 5 planned, 6 planned
        int[] due = {3, 1, 0, 1, 1, 1};
        for (int status = 0; status < 6; status++) {
            Check.same("loans with status " + status, due[status], x.loansWith(status));
        }
        x.advance(1);
        Check.same("ended loans", 1, x.loansWith(SilenceBureau.ENDED));
        int[] wrong = {-1, 6, Integer.MIN_VALUE, Integer.MAX_VALUE};
        for (int status : wrong) {
            Check.throwing("loansWith(" + status + ")", Check.ARGUMENT, () -> x.loansWith(status));
        }
    }

    private static void noise() {
        SilenceBureau x = Check.loaded("bureau 24 5;street s 99 98;street t 10 20;borrower a s 9 999;"
                + "permit s 2 2;permit s 3 2;permit t 6 1;lend a 0 1;lend a 6 3");
        int[] due = {0, 98, 138, 138, 138, 98, 0, 0, 0, 99};
        for (int hour = 0; hour < due.length; hour++) {
            Check.same("noise at " + hour, due[hour], x.noiseAt(0, hour));
        }
        Check.same("a loan silences its own street alone", 50, x.noiseAt(1, 6));
        Check.same("night begins at 22", 20, x.noiseAt(1, 22));
        Check.same("21 is a day hour", 10, x.noiseAt(1, 21));
        Check.same("29 is a night hour", 20, x.noiseAt(1, 29));
        Check.same("30 is a day hour", 10, x.noiseAt(1, 30));
        Check.same("a planned loan that begins now", 0, x.noiseNow(0));
        Check.same("the other street now", 20, x.noiseNow(1));
        for (int hour = 0; hour < due.length; hour++) {
            Check.same("noise now at " + hour, due[hour], x.noiseNow(0));
            int total = x.noiseTotal(0);
            x.advance(1);
            Check.same("noise of hour " + hour, due[hour], x.noiseTotal(0) - total);
        }
        x.grantPermit(0, 10, 1);
        Check.same("the greatest noise", 139, x.noiseNow(0));
        x.revokePermit(3);
        Check.same("a revoked permit is silent", 99, x.noiseNow(0));
        x.lend(0, 20, 1);
        x.cancel(2);
        Check.same("a cancelled loan silences nothing", 99, x.noiseAt(0, 20));
        Check.throwing("before the horizon", Check.ARGUMENT, () -> x.noiseAt(0, 9));
        Check.throwing("behind the horizon", Check.ARGUMENT, () -> x.noiseAt(0, 58));
        Check.same("the last hour of the horizon", 10, x.noiseAt(1, 57));
        Check.throwing("a far hour", Check.ARGUMENT, () -> x.noiseAt(0, Integer.MAX_VALUE));
        Check.throwing("a very early hour", Check.ARGUMENT, () -> x.noiseAt(0, Integer.MIN_VALUE));
        Check.throwing("the street is looked at first", Check.INDEX, () -> x.noiseAt(2, 9));
    }

    private static void noiseTotals() {
        SilenceBureau x = Check.loaded("bureau 24 0;street s 7 3;street t 0 0;borrower a s 1 99;borrower b t 1 99;"
                + "lend a 5 2;lend b 7 1;hours 30");
        Check.same("noise total", 11 * 3 + 15 * 7 + 2 * 3, x.noiseTotal(0));
        Check.same("quiet hours", 2, x.quietHours(0));
        Check.same("quiet hours of the other street", 1, x.quietHours(1));
        Check.same("a street without noise", 0, x.noiseTotal(1));
        x.lend(1, 30, 3);
        x.advance(1);
        Check.same("quiet hours grow hour by hour", 2, x.quietHours(1));
    }

    private static void loudest() {
        SilenceBureau x = Check.loaded("bureau 1 0;street s 5 5;street t 6 6;street u 6 6;street v 4 4");
        Check.same("all totals 0", 0, x.loudestStreet());
        x.advance(1);
        Check.same("a tie at the top", 1, x.loudestStreet());
        x.grantPermit(3, 1, 1);
        x.advance(1);
        Check.same("the last street", 3, x.loudestStreet());
        Check.same("no street", SilenceBureau.NONE, Check.loaded("bureau 1 0").loudestStreet());
    }

    private static void wrongStreets() {
        SilenceBureau x = new SilenceBureau();
        int[] wrong = {-1, 2, 8, Integer.MIN_VALUE, Integer.MAX_VALUE};
        for (int s : wrong) {
            Check.throwing("noiseNow(" + s + ")", Check.INDEX, () -> x.noiseNow(s));
            Check.throwing("noiseAt(" + s + ")", Check.INDEX, () -> x.noiseAt(s, 5));
            Check.throwing("noiseTotal(" + s + ")", Check.INDEX, () -> x.noiseTotal(s));
            Check.throwing("quietHours(" + s + ")", Check.INDEX, () -> x.quietHours(s));
        }
    }
}
