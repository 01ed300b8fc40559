/** Promises 15 and 51 to 53: undo and saved states. */
final class HistoryTest {
    public static void main(String[] args) {
        tenChanges();
        everyChange();
        afterUndo();
        undoneNumbersAreNew();
        whatUndoLeaves();
        saving();
        savedTwice();
        Check.end("HistoryTest");
    }

    private static void tenChanges() {
        SilenceBureau x = new SilenceBureau();
        Check.throwing("nothing to undo", Check.STATE, () -> x.undo());
        for (int i = 0; i < 15; i++) {
            Check.same("changes before change " + i, Math.min(i, 10), x.undoCount());
            x.pay(i % 3, i + 1);
        }
        for (int i = 14; i >= 5; i--) {
            Check.same("changes left", i - 5, x.undo());
            Check.same("undoCount", i - 5, x.undoCount());
            SilenceBureau as = paid(i);
            for (int b = 0; b < 3; b++) {
                Check.same("the credit of " + b + " before change " + i, as.creditOf(b), x.creditOf(b));
            }
        }
        String before = Check.picture(paid(5));
        Check.same("the state before ten changes", before, Check.picture(x));
        Check.throwing("only ten are undone", Check.STATE, () -> x.undo());
        Check.same("a failing undo alters nothing", before, Check.picture(x));
    }

    /** A new bureau after so many of the payments of tenChanges. */
    private static SilenceBureau paid(int payments) {
        SilenceBureau x = new SilenceBureau();
        for (int i = 0; i < payments; i++) {
            x.pay(i % 3, i + 1);
        }
        return x;
    }

    private static final Check.CallOn[] CHANGES = {x -> x.lend(2, 12, 2), x -> x.lend(1, 12, 1), x -> x.cancel(3),
        x -> x.advance(2), x -> x.whistle(0), x -> x.grantPermit(0, 8, 3), x -> x.revokePermit(0), x -> x.pay(2, 77),
        x -> x.advance(9), x -> x.restore(1)};

    /** A new bureau after so many of the changes. */
    private static SilenceBureau changed(int changes) {
        SilenceBureau x = new SilenceBureau();
        x.save(1);
        for (int i = 0; i < changes; i++) {
            CHANGES[i].make(x);
        }
        return x;
    }

    private static void everyChange() {
        for (int left = 0; left <= CHANGES.length; left++) {
            SilenceBureau x = changed(CHANGES.length);
            Check.same("recorded changes", CHANGES.length, x.undoCount());
            for (int i = CHANGES.length; i > left; i--) {
                x.undo();
            }
            SilenceBureau as = changed(left);
            Check.same("recorded changes after " + left, left, as.undoCount());
            Check.same("all but " + left + " changes are undone", Check.picture(as), Check.picture(x));
        }
        SilenceBureau x = changed(CHANGES.length);
        for (int i = 0; i < CHANGES.length; i++) {
            x.undo();
        }
        Check.same("undone: the next loan has the same number", 2, x.lend(2, 12, 2));
        x.advance(40);
        x.undo();
        x.undo();
        Check.same("noise totals are undone", 250, x.noiseTotal(1));
        x.restore(1);
        Check.same("a change that alters nothing is recorded", 1, x.undoCount());
    }

    private static void afterUndo() {
        SilenceBureau x = new SilenceBureau();
        for (int i = 1; i <= 12; i++) {
            x.pay(0, i);
        }
        Check.same("undo of the 12th", 9, x.undo());
        Check.same("undo of the 11th", 8, x.undo());
        Check.same("another change", 26 + 55 + 100, x.pay(0, 100));
        Check.same("changes that can be undone", 9, x.undoCount());
        Check.same("undo of the other change", 8, x.undo());
        Check.same("the credit before it", 26 + 55, x.creditOf(0));
        Check.same("undo of the 10th", 7, x.undo());
        Check.same("the credit before the 10th", 26 + 45, x.creditOf(0));
    }

    private static void undoneNumbersAreNew() {
        SilenceBureau x = new SilenceBureau();
        x.grantPermit(0, 20, 1);
        x.revokePermit(1);
        x.lend(2, 30, 1);
        x.cancel(2);
        for (int i = 0; i < 4; i++) {
            x.undo();
        }
        Check.same("the same permit", 1, x.grantPermit(0, 20, 1));
        Check.same("it is not revoked", 1, x.permitFor(0, 20));
        Check.same("the same loan", 2, x.lend(2, 30, 1));
        Check.same("it is not cancelled", SilenceBureau.PLANNED, x.statusOf(2));
        SilenceBureau y = new SilenceBureau();
        y.save(0);
        y.grantPermit(0, 20, 1);
        y.revokePermit(1);
        y.lend(2, 30, 1);
        y.cancel(2);
        y.restore(0);
        Check.same("the permit after a restore", 1, y.grantPermit(0, 20, 1));
        Check.same("it is not revoked either", 1, y.permitFor(0, 20));
        Check.same("the loan after a restore", 2, y.lend(2, 30, 1));
        Check.same("it is not cancelled either", SilenceBureau.PLANNED, y.statusOf(2));
    }

    private static void whatUndoLeaves() {
        SilenceBureau x = new SilenceBureau();
        x.pay(0, 1);
        x.save(0);
        Check.throwing("an error", Check.ARGUMENT, () -> Check.load(x, "bureau 1 100"));
        x.append(0, 0, 0, 0, 0);
        int written = x.writeBorrower(0);
        x.undo();
        Check.same("the reported kind stays", 2, x.errorKind());
        Check.same("the reported offset stays", 9, x.errorOffset());
        Check.same("the output stays", "ann@elm 3 27", Check.output(x, written));
        Check.same("the input stays", 40, x.append(0, 0, 0, 0, 0));
        Check.same("the saved state stays", 5, x.restore(0));
        Check.same("with its payment", 27, x.creditOf(0));
    }

    private static void saving() {
        SilenceBureau x = new SilenceBureau();
        int[] wrong = {-1, 2, Integer.MIN_VALUE, Integer.MAX_VALUE};
        for (int slot : wrong) {
            Check.throwing("save(" + slot + ")", Check.INDEX, () -> x.save(slot));
            Check.throwing("restore(" + slot + ")", Check.INDEX, () -> x.restore(slot));
        }
        Check.throwing("restore of nothing", Check.STATE, () -> x.restore(1));
        Check.same("save answers the clock", 5, x.save(1));
        Check.same("saving is no change", 0, x.undoCount());
        Check.throwing("the other slot is empty", Check.STATE, () -> x.restore(0));
        x.advance(8);
        x.pay(1, 9);
        Check.same("save in the other slot", 13, x.save(0));
        Check.same("restore answers the clock", 5, x.restore(1));
        Check.same("the first state", first(), Check.picture(x));
        Check.same("restoring is a change", 3, x.undoCount());
        x.pay(2, 1);
        x.lend(2, 12, 1);
        Check.same("the state stays saved", 5, x.restore(1));
        Check.same("unaltered", first(), Check.picture(x));
    }

    private static String first() {
        return Check.picture(new SilenceBureau());
    }

    private static void savedTwice() {
        SilenceBureau x = new SilenceBureau();
        x.save(1);
        x.advance(8);
        x.pay(1, 9);
        SilenceBureau second = new SilenceBureau();
        second.advance(8);
        second.pay(1, 9);
        x.save(0);
        x.restore(1);
        Check.same("the second state", 13, x.restore(0));
        Check.same("is as it was", Check.picture(second), Check.picture(x));
        x.undo();
        Check.same("a restore is undone", first(), Check.picture(x));
        x.restore(0);
        x.advance(1);
        Check.same("save replaces", 14, x.save(1));
        Check.same("and the new state is restored", 14, x.restore(1));
        x.undo();
        Check.same("save stays when changes are undone", 14, x.restore(1));
    }
}
