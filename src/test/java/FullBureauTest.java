/** A bureau with as many streets, borrowers, loans and permits as there can be: no call may go beyond a list. */
final class FullBureauTest {
    public static void main(String[] args) {
        SilenceBureau x = full();
        Check.same("streets", 8, x.streetCount());
        Check.same("borrowers", 12, x.borrowerCount());
        Check.same("loans", 30, x.loanCount());
        Check.same("permits", 10, x.permitCount());
        answers(x);
        changes(x);
        restored();
        Check.end("FullBureauTest");
    }

    private static SilenceBureau full() {
        StringBuilder text = new StringBuilder("bureau 24 9");
        for (int s = 0; s < 8; s++) {
            text.append(";street ").append((char) ('a' + s)).append(" 9 8");
        }
        for (int b = 0; b < 12; b++) {
            text.append(";borrower ").append((char) ('a' + b)).append(' ').append((char) ('a' + b % 8)).append(" 9 99");
        }
        for (int i = 0; i < 14; i++) {
            text.append(";lend ").append((char) ('a' + i % 12)).append(' ').append(i).append(" 1");
        }
        SilenceBureau x = Check.loaded(text.toString());
        for (int i = 14; i < 30; i++) {
            x.lend(i % 12, i, 1);
        }
        for (int i = 0; i < 10; i++) {
            x.grantPermit(i % 8, 40, 1);
        }
        return x;
    }

    private static void answers(SilenceBureau x) {
        Check.same("the accounts", 0, x.ledgerDifference());
        Check.same("planned loans", 30, x.loansWith(SilenceBureau.PLANNED));
        Check.same("an hour without a loan", SilenceBureau.NONE, x.holderOf(30));
        Check.same("the last loan", 29, x.holderOf(29));
        Check.same("free hours", 18, x.freeHours());
        Check.same("the permit of the last street", 7, x.permitFor(7, 40));
        Check.same("no permit", SilenceBureau.NONE, x.permitFor(7, 41));
        Check.same("too many loans", 5, x.refusal(11, 45, 3));
        Check.same("no start", SilenceBureau.NONE, x.earliestStart(11, 1));
        Check.same("the loudest", 0, x.loudestStreet());
        Check.same("the most ill", 0, x.mostIll());
        Check.same("illness of the last borrower", 9, x.illnessAfter(11, 200));
        Check.same("the output of the last borrower", "l@d 9 97", Check.output(x, x.writeBorrower(11)));
        Check.same("no overdue loan", 0, x.overdueLoans(11));
        Check.throwing("loan 30", Check.INDEX, () -> x.statusOf(30));
        Check.throwing("borrower 12", Check.INDEX, () -> x.creditOf(12));
        Check.throwing("street 8", Check.INDEX, () -> x.noiseNow(8));
        Check.throwing("permit 10", Check.INDEX, () -> x.revokePermit(10));
        Check.throwing("a 31st loan", Check.STATE, () -> x.lend(0, 45, 1));
        Check.throwing("an 11th permit", Check.STATE, () -> x.grantPermit(0, 45, 1));
    }

    private static void changes(SilenceBureau x) {
        x.save(0);
        Check.same("sixteen loans become overdue", 16, x.advance(40));
        Check.same("overdue", 16, x.loansWith(SilenceBureau.OVERDUE));
        Check.same("the accounts", 0, x.ledgerDifference());
        Check.same("the clock restored", 0, x.restore(0));
        Check.same("cancelled and refunded", 97, x.cancel(29));
        Check.same("no room by a cancellation", 5, x.refusal(11, 45, 3));
        Check.same("permits that are not revoked", 9, x.revokePermit(9));
    }

    /** A full bureau has so much to tell that each half of its picture needs a bureau of its own. */
    private static void restored() {
        Check.same("restored", Check.summary(full()), Check.summary(savedAndRestored()));
        Check.same("restored with its permits", Check.permits(full()), Check.permits(savedAndRestored()));
    }

    private static SilenceBureau savedAndRestored() {
        SilenceBureau x = full();
        x.save(0);
        x.advance(40);
        x.restore(0);
        return x;
    }
}
