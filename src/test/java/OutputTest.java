/** Promises 54 to 56: the output. */
final class OutputTest {
    public static void main(String[] args) {
        schedule();
        borrower();
        outputByte();
        Check.end("OutputTest");
    }

    private static void schedule() {
        SilenceBureau x = new SilenceBureau();
        Check.same("length", 24, x.writeSchedule());
        Check.same("the first schedule", "abbb....................", Check.output(x, 24));
        Check.throwing("no byte behind it", Check.INDEX, () -> x.outputByte(24));
        x.lend(2, 28, 3);
        x.writeSchedule();
        Check.same("the last hour", "abbb...................c", Check.output(x, 24));
        x.advance(1);
        Check.same("the output stays", "abbb...................c", Check.output(x, 24));
        x.writeSchedule();
        Check.same("an hour later", "bbb...................cc", Check.output(x, 24));
        SilenceBureau y = Check.loaded("bureau 1 0;street z 0 0;borrower abcdef z 1 99;borrower zyxwvu z 2 99;"
                + "borrower qa z 3 99;lend abcdef 0 2;lend zyxwvu 4 2;lend qa 1 1");
        y.writeSchedule();
        Check.same("first letters", ".q..zz..................", Check.output(y, 24));
        SilenceBureau none = Check.loaded("bureau 1 0");
        none.writeSchedule();
        Check.same("nothing lent", "........................", Check.output(none, 24));
    }

    private static void borrower() {
        SilenceBureau x = Check.loaded("bureau 1 99;street zebras 99 99;street b 0 0;borrower azazaz zebras 9 999;"
                + "borrower z b 0 0;borrower m b 5 1;lend m 0 1;hours 2");
        String[] due = {"azazaz@zebras 9 999", "z@b 0 0", "m@b 5 -99"};
        for (int b = 0; b < due.length; b++) {
            int length = x.writeBorrower(b);
            Check.same("length", due[b].length(), length);
            Check.same("borrower " + b, due[b], Check.output(x, length));
            Check.throwing("the output is replaced", Check.INDEX, () -> x.outputByte(length));
        }
        x.pay(0, 999);
        Check.same("a long credit", "azazaz@zebras 9 1998", Check.output(x, x.writeBorrower(0)));
        Check.throwing("writeBorrower(3)", Check.INDEX, () -> x.writeBorrower(3));
        Check.throwing("writeBorrower(-1)", Check.INDEX, () -> x.writeBorrower(-1));
        Check.same("a failing call leaves the output", "azazaz@zebras 9 1998", Check.output(x, 20));
    }

    private static void outputByte() {
        SilenceBureau x = new SilenceBureau();
        int[] wrong = {0, -1, 63, 64, Integer.MIN_VALUE, Integer.MAX_VALUE};
        for (int index : wrong) {
            Check.throwing("outputByte(" + index + ")", Check.INDEX, () -> x.outputByte(index));
        }
        x.writeBorrower(1);
        Check.same("the first byte", 98, x.outputByte(0));
        Check.same("an at sign", 64, x.outputByte(3));
        Check.same("a space", 32, x.outputByte(7));
        Check.same("the last byte", 51, x.outputByte(11));
        Check.throwing("behind the last byte", Check.INDEX, () -> x.outputByte(12));
        Check.throwing("before the first byte", Check.INDEX, () -> x.outputByte(-1));
    }
}
