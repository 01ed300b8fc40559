/** The boundaries of promises 44 to 56 and of the history: changes, undo, saved states, output. */
final class ChangeEdges {
    private ChangeEdges() {
    }

    static void run() {
        Sentences.promise(0);
        changesAreRecorded();
        tenChanges();
        whatUndoLeaves();
        throwingAltersNothing();
        firstException();
        lend();
        cancel();
        whistle();
        grantPermit();
        revokePermit();
        pay();
        advance();
        restore();
        undo();
        save();
        writeSchedule();
        writeBorrower();
        outputByte();
    }

    private static void changesAreRecorded() {
        Sentences.say("The methods in the section \"changes\" record a change whenever they return normally, even "
                + "if they alter nothing.");
        SilenceBureau x = new SilenceBureau();
        x.save(0);
        Sentences.same("save is none", 0, x.undoCount());
        x.restore(0);
        Sentences.same("a restore that alters nothing", 1, x.undoCount());
        x.lend(2, 12, 1);
        x.cancel(2);
        x.advance(1);
        x.whistle(0);
        x.grantPermit(0, 20, 1);
        x.revokePermit(1);
        x.pay(0, 1);
        Sentences.same("each of the changes", 8, x.undoCount());
        x.writeSchedule();
        x.writeBorrower(0);
        x.append(0, 0, 0, 0, 0);
        x.illnessAfter(0, 200);
        x.displacedBy(1, 20, 1);
        Sentences.same("nothing else is recorded", 8, x.undoCount());
        Sentences.throwing("a change that is refused", Check.STATE, () -> x.cancel(2));
        Sentences.same("is not recorded", 8, x.undoCount());
    }

    private static void tenChanges() {
        Sentences.say("The last 10 recorded changes can be undone.");
        SilenceBureau x = Check.loaded("bureau 1 0");
        for (int i = 0; i < 10; i++) {
            x.advance(1);
        }
        for (int clock = 9; clock >= 0; clock--) {
            Sentences.same("of ten changes", clock, x.undo());
            Sentences.same("clock", clock, x.clock());
        }
        Sentences.throwing("no more", Check.STATE, () -> x.undo());
        for (int i = 0; i < 11; i++) {
            x.advance(1);
        }
        for (int i = 9; i >= 0; i--) {
            Sentences.same("of eleven changes", i, x.undo());
        }
        Sentences.same("the first of them stays", 1, x.clock());
        Sentences.throwing("it cannot be undone", Check.STATE, () -> x.undo());
    }

    private static void whatUndoLeaves() {
        Sentences.say("Undoing a change restores the state before it, except for the input buffer, the output buffer");
        SilenceBureau x = new SilenceBureau();
        String before = Check.picture(x);
        x.advance(99);
        x.save(1);
        Sentences.throwing("an error", Check.ARGUMENT, () -> Check.load(x, "bureau 0 0"));
        x.append(0, 0, 0, 0, 0);
        int length = x.writeBorrower(1);
        String written = Check.output(x, length);
        x.undo();
        Sentences.same("the state", before, Check.picture(x));
        Sentences.same("the input stays", 40, x.append(0, 0, 0, 0, 0));
        Sentences.same("the output stays", written, Check.output(x, length));
        Sentences.same("the kind stays", 2, x.errorKind());
        Sentences.same("the offset stays", 7, x.errorOffset());
        Sentences.same("the saved state stays", 104, x.restore(1));
        Sentences.throwing("the other slot stays empty", Check.STATE, () -> x.restore(0));
    }

    private static void throwingAltersNothing() {
        Sentences.say("A method that throws an exception alters nothing, unless its description says otherwise.");
        Check.CallOn[] calls = {x -> x.load(21), x -> x.loansWith(6), x -> x.noiseAt(0, 4), x -> x.holderOf(53),
            x -> x.permitFor(2, 5), x -> x.refusal(0, 4, 1), x -> x.illnessAfter(0, 201), x -> x.lend(2, 8, 2),
            x -> x.lend(2, 10, 1), x -> x.lend(0, 50, 4), x -> x.cancel(0), x -> x.whistle(1),
            x -> x.grantPermit(1, 8, 2), x -> x.grantPermit(0, 50, 4), x -> x.revokePermit(1), x -> x.pay(0, 1000),
            x -> x.advance(100), x -> x.restore(0), x -> x.restore(-1), x -> x.save(2), x -> x.writeBorrower(3),
            x -> x.outputByte(24)};
        for (int i = 0; i < calls.length; i++) {
            throwing(i, calls[i]);
        }
        SilenceBureau x = new SilenceBureau();
        Sentences.throwing("undo without a change", Check.STATE, () -> x.undo());
        Sentences.same("alters nothing", 26, x.creditOf(0));
    }

    private static void throwing(int i, Check.CallOn call) {
        SilenceBureau x = new SilenceBureau();
        x.pay(0, 1);
        x.append(0, 0, 0, 0, 0);
        x.writeSchedule();
        String before = Check.picture(x);
        Sentences.same("call " + i + " throws", true, Check.nameOfThrown(() -> call.make(x)).startsWith("java.lang."));
        Sentences.same("the state after call " + i, before, Check.picture(x));
        Sentences.same("the changes after call " + i, 1, x.undoCount());
        Sentences.same("the output after call " + i, "abbb....................", Check.output(x, 24));
        Sentences.same("the error after call " + i, 0, x.errorKind());
        Sentences.same("the input after call " + i, 40, x.append(0, 0, 0, 0, 0));
        Sentences.same("undo after call " + i, 0, x.undo());
        Sentences.same("the credit after call " + i, 26, x.creditOf(0));
    }

    private static void firstException() {
        Sentences.say("If several exceptions apply to one call, the method throws the one that is listed first.");
        SilenceBureau x = new SilenceBureau();
        Check.append(x, "no description");
        Sentences.throwing("load", Check.INDEX, () -> x.load(21));
        Sentences.throwing("noiseAt", Check.INDEX, () -> x.noiseAt(2, 4));
        Sentences.throwing("permitFor", Check.INDEX, () -> x.permitFor(-1, 53));
        Sentences.throwing("quote", Check.INDEX, () -> x.quote(3, 7));
        Sentences.throwing("refusal", Check.INDEX, () -> x.refusal(3, 4, 7));
        Sentences.throwing("refusalCause", Check.INDEX, () -> x.refusalCause(3, 4, 7));
        Sentences.throwing("displacedBy", Check.INDEX, () -> x.displacedBy(3, 4, 7));
        Sentences.throwing("earliestStart", Check.INDEX, () -> x.earliestStart(3, 7));
        Sentences.throwing("earliestPeacefulStart", Check.INDEX, () -> x.earliestPeacefulStart(3, 7));
        Sentences.throwing("illnessAfter", Check.INDEX, () -> x.illnessAfter(3, 201));
        Sentences.throwing("lend, a borrower", Check.INDEX, () -> x.lend(3, 5, 7));
        Sentences.throwing("lend, a held hour and one before the horizon", Check.ARGUMENT, () -> x.lend(2, 4, 2));
        Sentences.throwing("grantPermit, a street", Check.INDEX, () -> x.grantPermit(2, 4, 13));
        Sentences.throwing("grantPermit, a held hour and one before the "
                + "horizon", Check.ARGUMENT, () -> x.grantPermit(1, 4, 3));
        Sentences.throwing("pay", Check.INDEX, () -> x.pay(3, 0));
        Sentences.throwing("restore", Check.INDEX, () -> x.restore(2));
        SilenceBureau late = Texts.atLastClock("bureau 1 0");
        Sentences.throwing("advance, too many hours", Check.ARGUMENT, () -> late.advance(100));
        Sentences.throwing("advance, far too many hours", Check.ARGUMENT, () -> late.advance(Integer.MAX_VALUE));
        SilenceBureau full = Check.loaded(Texts.permits(10));
        Sentences.throwing("grantPermit, a length and a full list", Check.ARGUMENT, () -> full.grantPermit(0, 5, 0));
        SilenceBureau loans = Check.loaded(Texts.loans(30));
        Sentences.throwing("lend, a length and a full list", Check.ARGUMENT, () -> loans.lend(0, 40, 0));
    }

    private static void lend() {
        Sentences.promise(44);
        Sentences.say("- `length`: 1 to 6");
        Sentences.say("Returns the number of the new loan.");
        SilenceBureau x = Check.loaded("bureau 24 0;street s 0 0;borrower a s 1 99;hours 5");
        Sentences.same("the present hour", 0, x.lend(0, 5, 1));
        Sentences.same("six hours at the end of the horizon", 1, x.lend(0, 47, 6));
        for (int i = 2; i < 30; i++) {
            Sentences.same("number", i, x.lend(0, 6 + i, 1));
        }
        Sentences.say("Throws `IllegalStateException` if the bureau refuses the loan");
        Sentences.throwing("a 31st loan", Check.STATE, () -> x.lend(0, 40, 1));
        Sentences.same("no credit is taken", 99 - 35, x.creditOf(0));
        SilenceBureau y = new SilenceBureau();
        y.advance(3);
        Sentences.throwing("an overdue loan", Check.STATE, () -> y.lend(0, 20, 1));
        Sentences.throwing("a permit", Check.STATE, () -> y.lend(1, 11, 1));
        Sentences.throwing("a running loan", Check.STATE, () -> y.lend(2, 8, 1));
        Sentences.throwing("too small a credit", Check.STATE, () -> y.lend(2, 20, 6));
        Sentences.same("all of the credit but 5", 2, y.lend(2, 20, 5));
        Sentences.same("is taken", 5, y.creditOf(2));
        SilenceBureau z = new SilenceBureau();
        AnswerEdges.noSuch("borrower", 3, b -> z.lend(b, 20, 1));
        AnswerEdges.noSpan((start, length) -> z.lend(1, start, length));
        Sentences.same("nothing was granted", 2, z.loanCount());
    }

    private static void cancel() {
        Sentences.promise(45);
        Sentences.say("Returns the credit of its borrower afterwards.");
        SilenceBureau x = Check.loaded("bureau 2 9;street s 0 0;borrower a s 1 4;lend a 0 1;lend a 1 1;lend a 3 1;"
                + "lend a 4 1;hours 2");
        Sentences.same("from no credit", 1, x.cancel(3));
        x.advance(1);
        Sentences.same("from a negative credit", -7, x.cancel(2));
        Sentences.say("Throws `IllegalStateException` if the loan is not planned");
        Sentences.throwing("a cancelled loan", Check.STATE, () -> x.cancel(2));
        Sentences.throwing("an overdue loan", Check.STATE, () -> x.cancel(0));
        Sentences.throwing("an ended loan", Check.STATE, () -> x.cancel(1));
        x.whistle(0);
        Sentences.throwing("a returned loan", Check.STATE, () -> x.cancel(0));
        SilenceBureau y = new SilenceBureau();
        y.advance(2);
        Sentences.throwing("a running loan", Check.STATE, () -> y.cancel(1));
        AnswerEdges.noSuch("loan", 4, x::cancel);
        AnswerEdges.noSuch("loan", 0, Check.loaded("bureau 1 0")::cancel);
    }

    private static void whistle() {
        Sentences.promise(46);
        Sentences.say("Returns the number of hours since its end.");
        SilenceBureau x = Check.loaded("bureau 2 9;street s 0 0;borrower a s 1 9;borrower b s 2 9;lend a 0 2;"
                + "lend a 2 1;lend a 3 1;lend a 9 1;lend b 9 1;hours 1");
        Sentences.say("Throws `IllegalStateException` if the loan is neither ended nor overdue");
        Sentences.throwing("a running loan", Check.STATE, () -> x.whistle(0));
        Sentences.throwing("a planned loan", Check.STATE, () -> x.whistle(1));
        Sentences.throwing("a cancelled loan", Check.STATE, () -> x.whistle(3));
        x.advance(1);
        Sentences.same("in the hour of its end", 0, x.whistle(0));
        Sentences.throwing("a returned loan", Check.STATE, () -> x.whistle(0));
        x.advance(3);
        Sentences.same("in the hour in which it became overdue", 2, x.whistle(1));
        Sentences.same("in the last hour of the grace", 1, x.whistle(2));
        AnswerEdges.noSuch("loan", 5, x::whistle);
        SilenceBureau late = Check.loaded("bureau 1 0;street s 0 0;borrower a s 1 1;lend a 0 1;hours 1");
        for (int i = 0; i < 100; i++) {
            late.advance(99);
        }
        late.advance(98);
        Sentences.same("at the last clock", 9998, late.whistle(0));
    }

    private static void grantPermit() {
        Sentences.promise(47);
        Sentences.say("- `length`: 1 to 12");
        Sentences.say("Returns the number of the new permit.");
        SilenceBureau x = Check.loaded("bureau 24 0;street s 0 0;street t 0 0;borrower a s 1 9;hours 5;lend a 5 2;"
                + "lend a 20 2;hours 1");
        Sentences.same("12 hours at the end of the horizon", 0, x.grantPermit(0, 42, 12));
        Sentences.same("the present hour in another street", 1, x.grantPermit(1, 6, 1));
        Sentences.say("Throws `IllegalStateException` if a planned or running loan of this street holds one of the "
                + "hours, or there are 10");
        Sentences.throwing("a running loan", Check.STATE, () -> x.grantPermit(0, 6, 1));
        Sentences.same("after a running loan", 2, x.grantPermit(0, 7, 1));
        Sentences.throwing("the first hour of a planned loan", Check.STATE, () -> x.grantPermit(0, 9, 12));
        Sentences.same("up to a planned loan", 3, x.grantPermit(0, 8, 12));
        Sentences.throwing("the last hour of a planned loan", Check.STATE, () -> x.grantPermit(0, 21, 1));
        Sentences.same("after a planned loan", 4, x.grantPermit(0, 22, 1));
        Sentences.same("hours of a loan of another street", 5, x.grantPermit(1, 20, 2));
        x.cancel(1);
        Sentences.same("hours of a cancelled loan", 6, x.grantPermit(0, 20, 2));
        Sentences.same("hours of a permit", 7, x.grantPermit(0, 20, 2));
        x.grantPermit(0, 20, 1);
        Sentences.same("the last permit", 9, x.grantPermit(0, 20, 1));
        Sentences.throwing("one more", Check.STATE, () -> x.grantPermit(0, 20, 1));
        x.revokePermit(9);
        Sentences.throwing("one more after a revocation", Check.STATE, () -> x.grantPermit(0, 20, 1));
        SilenceBureau y = new SilenceBureau();
        AnswerEdges.noSuch("street", 2, s -> y.grantPermit(s, 20, 1));
        AnswerEdges.noSuch("street", 0, s -> Check.loaded("bureau 1 0").grantPermit(s, 20, 1));
        Sentences.say("Throws `IllegalArgumentException` if length is out of range, or one of the hours is not in "
                + "the horizon");
        int[][] wrong = {{20, 0}, {20, 13}, {20, Integer.MIN_VALUE}, {20, Integer.MAX_VALUE}, {4, 1}, {4, 12}, {53, 1},
            {52, 2}, {42, 12}, {Integer.MIN_VALUE, 1}, {Integer.MAX_VALUE, 1}, {Integer.MAX_VALUE - 11, 12}};
        for (int[] span : wrong) {
            Sentences.throwing(span[0] + ", " + span[1], Check.ARGUMENT, () -> y.grantPermit(0, span[0], span[1]));
        }
        Sentences.same("nothing was granted", 1, y.permitCount());
    }

    private static void revokePermit() {
        Sentences.promise(48);
        Sentences.say("Returns the number of permits that are not revoked.");
        SilenceBureau x = Check.loaded(Texts.permits(10) + ";hours 3");
        x.advance(2);
        Sentences.same("a permit that has begun", 9, x.revokePermit(0));
        x.advance(1);
        for (int i = 1; i < 10; i++) {
            Sentences.same("a permit that is over", 9 - i, x.revokePermit(i));
        }
        Sentences.say("Throws `IllegalStateException` if it is revoked");
        Sentences.throwing("the first", Check.STATE, () -> x.revokePermit(0));
        Sentences.throwing("the last", Check.STATE, () -> x.revokePermit(9));
        x.undo();
        Sentences.same("a revocation that was undone", 0, x.revokePermit(9));
        AnswerEdges.noSuch("permit", 10, x::revokePermit);
        AnswerEdges.noSuch("permit", 0, Check.loaded("bureau 1 0")::revokePermit);
    }

    private static void pay() {
        Sentences.promise(49);
        Sentences.say("- `amount`: 1 to 999");
        Sentences.say("Returns the new credit.");
        SilenceBureau x = Check.loaded("bureau 1 99;street s 0 0;borrower a s 1 1;borrower b s 1 999;lend a 0 1;"
                + "hours 2");
        Sentences.same("the least amount", -98, x.pay(0, 1));
        Sentences.same("the greatest amount", 901, x.pay(0, 999));
        Sentences.same("above what a text can give", 1998, x.pay(1, 999));
        AnswerEdges.noSuch("borrower", 2, b -> x.pay(b, 1));
        AnswerEdges.noSuch("borrower", 2, b -> x.pay(b, 0));
        AnswerEdges.outOfRange("amount is out of range", 1, 999, amount -> x.pay(0, amount));
        Sentences.same("only the two in range were paid", 901 + 1000, x.creditOf(0));
    }

    private static void advance() {
        Sentences.promise(50);
        Sentences.say("- `hours`: 1 to 99");
        Sentences.say("Returns the number of loans that became overdue in these hours.");
        SilenceBureau x = Check.loaded(Texts.loans(30));
        Sentences.same("none", 0, x.advance(24));
        Sentences.same("one in one hour", 1, x.advance(1));
        Sentences.same("all others", 29, x.advance(99));
        Sentences.same("they were counted once", 0, x.advance(99));
        x.undo();
        x.undo();
        x.undo();
        x.whistle(0);
        x.cancel(29);
        Sentences.same("without a returned and a cancelled one", 28, x.advance(99));
        AnswerEdges.outOfRange("hours is out of range", 1, 99, x::advance);
        Sentences.say("Throws `IllegalStateException` if the clock would exceed 9999");
        SilenceBureau late = Check.loaded("bureau 1 0;street s 1 1");
        for (int i = 0; i < 100; i++) {
            late.advance(99);
        }
        late.advance(1);
        Sentences.throwing("99 hours from 9901", Check.STATE, () -> late.advance(99));
        Sentences.same("no hour has passed", 9901, late.noiseTotal(0));
        Sentences.same("98 hours", 0, late.advance(98));
        Sentences.same("the last clock", 9999, late.clock());
        Sentences.throwing("one hour", Check.STATE, () -> late.advance(1));
        Sentences.throwing("99 hours", Check.STATE, () -> late.advance(99));
        late.undo();
        Sentences.same("97 hours after undo", 0, late.advance(97));
    }

    private static void noSlot(AnswerEdges.OneNumber call) {
        Sentences.say("Throws `IndexOutOfBoundsException` if slot is neither 0 nor 1");
        int[] wrong = {-1, 2, Integer.MIN_VALUE, Integer.MAX_VALUE};
        for (int slot : wrong) {
            Sentences.throwing("slot " + slot, Check.INDEX, () -> call.answer(slot));
        }
    }

    private static void restore() {
        Sentences.promise(51);
        Sentences.say("- `slot`: 0 or 1");
        Sentences.say("Throws `IllegalStateException` if nothing is saved in the slot");
        SilenceBureau x = new SilenceBureau();
        noSlot(x::restore);
        Sentences.throwing("slot 0", Check.STATE, () -> x.restore(0));
        x.save(0);
        Sentences.throwing("slot 1", Check.STATE, () -> x.restore(1));
        x.advance(3);
        x.save(1);
        Sentences.say("Returns the clock of the restored state.");
        String later = Check.picture(x);
        Sentences.same("the first slot", 5, x.restore(0));
        Sentences.same("the last slot", 8, x.restore(1));
        Sentences.same("its state", later, Check.picture(x));
        Sentences.same("it stays saved", 8, x.restore(1));
        Sentences.same("a restored bureau goes on", 0, x.advance(1));
        Sentences.same("without altering what is saved", 8, x.restore(1));
        noSlot(x::restore);
        Check.load(x, "bureau 1 0");
        Sentences.throwing("nothing is saved after load", Check.STATE, () -> x.restore(1));
        x.save(0);
        x.advance(1);
        Sentences.same("a state with nothing in it", 0, x.restore(0));
    }

    private static void undo() {
        Sentences.promise(52);
        Sentences.say("Returns the number of changes that can still be undone.");
        SilenceBureau x = new SilenceBureau();
        x.pay(0, 1);
        x.pay(0, 2);
        Sentences.same("one is left", 1, x.undo());
        x.pay(0, 4);
        Sentences.same("undo goes back in turn", 1, x.undo());
        Sentences.same("the first stands", 27, x.creditOf(0));
        Sentences.same("none is left", 0, x.undo());
        Sentences.same("none stands", 26, x.creditOf(0));
        Sentences.say("Throws `IllegalStateException` if there is no change to undo");
        Sentences.throwing("all are undone", Check.STATE, () -> x.undo());
        Sentences.throwing("none was made", Check.STATE, () -> new SilenceBureau().undo());
        for (int i = 0; i < 25; i++) {
            x.pay(0, 1);
        }
        for (int left = 9; left >= 0; left--) {
            Sentences.same("left of 25", left, x.undo());
        }
        Sentences.throwing("the eleventh", Check.STATE, () -> x.undo());
        Sentences.same("fifteen stand", 26 + 15, x.creditOf(0));
    }

    private static void save() {
        Sentences.promise(53);
        Sentences.say("- `slot`: 0 or 1");
        Sentences.say("Returns the clock of the saved state.");
        SilenceBureau x = new SilenceBureau();
        noSlot(x::save);
        Sentences.same("the first slot", 5, x.save(0));
        x.advance(1);
        Sentences.same("the last slot", 6, x.save(1));
        x.advance(1);
        Sentences.same("what was saved is replaced", 7, x.save(0));
        Sentences.same("saving is no change", 2, x.undoCount());
        noSlot(x::save);
        Sentences.same("the other slot is not replaced", 6, x.restore(1));
        Sentences.same("the new state", 7, x.restore(0));
        Sentences.same("at the last clock", 9999, Texts.atLastClock("bureau 1 0").save(0));
        Sentences.same("at the first clock", 0, Check.loaded("bureau 1 0").save(1));
    }

    private static void writeSchedule() {
        Sentences.promise(54);
        Sentences.say("Returns the length of the output.");
        SilenceBureau x = Check.loaded("bureau 24 0;street s 0 0;borrower zed s 1 99;borrower abe s 2 99;hours 5;"
                + "lend zed 5 1;lend abe 28 2;lend zed 30 1");
        x.writeBorrower(0);
        Sentences.same("24 hours", 24, x.writeSchedule());
        Sentences.same("the first and the last hour", "z......................a", Check.output(x, 24));
        Sentences.throwing("no byte behind them", Check.INDEX, () -> x.outputByte(24));
        x.advance(1);
        x.writeSchedule();
        Sentences.same("an hour later", "......................aa", Check.output(x, 24));
        x.advance(1);
        x.writeSchedule();
        Sentences.same("two hours later", ".....................aaz", Check.output(x, 24));
        SilenceBureau none = Texts.atLastClock("bureau 1 0");
        Sentences.same("without borrowers, at the last clock", 24, none.writeSchedule());
        Sentences.same("nothing is lent", ".".repeat(24), Check.output(none, 24));
        SilenceBureau all = Check.loaded(Texts.loans(24));
        all.writeSchedule();
        Sentences.same("all is lent", "a".repeat(24), Check.output(all, 24));
    }

    private static void writeBorrower() {
        Sentences.promise(55);
        Sentences.say("Returns the length of the output.");
        SilenceBureau x = Check.loaded("bureau 1 99;street s 0 0;street zzzzzz 0 0;borrower a s 0 0;"
                + "borrower zzzzzz zzzzzz 9 999;borrower b s 0 1;lend b 0 1;hours 2");
        x.writeSchedule();
        String[] due = {"a@s 0 0", "zzzzzz@zzzzzz 9 999", "b@s 0 -99"};
        for (int b = 0; b < due.length; b++) {
            Sentences.same("length", due[b].length(), x.writeBorrower(b));
            Sentences.same("text", due[b], Check.output(x, due[b].length()));
            int length = due[b].length();
            Sentences.throwing("no byte of the schedule is left", Check.INDEX, () -> x.outputByte(length));
        }
        for (int i = 0; i < 400; i++) {
            x.pay(1, 999);
        }
        Sentences.same("a long credit", "zzzzzz@zzzzzz 9 400599", Check.output(x, x.writeBorrower(1)));
        x.pay(2, 98);
        Sentences.same("a credit of -1", "b@s 0 -1", Check.output(x, x.writeBorrower(2)));
        x.pay(2, 1);
        Sentences.same("a credit of 0", "b@s 0 0", Check.output(x, x.writeBorrower(2)));
        AnswerEdges.noSuch("borrower", 3, x::writeBorrower);
        Sentences.same("the output stays", "b@s 0 0", Check.output(x, 7));
    }

    private static void outputByte() {
        Sentences.promise(56);
        Sentences.say("- `index`: the index, from 0");
        Sentences.say("Returns the byte.");
        SilenceBureau x = Check.loaded("bureau 1 0;street z 0 0;borrower a z 9 9");
        AnswerEdges.noSuch("byte", 0, x::outputByte);
        x.writeBorrower(0);
        int[] due = {'a', 64, 'z', 32, '9', 32, '9'};
        for (int i = 0; i < due.length; i++) {
            Sentences.same("byte " + i, due[i], x.outputByte(i));
        }
        AnswerEdges.noSuch("byte", 7, x::outputByte);
        x.writeSchedule();
        Sentences.same("a full stop", 46, x.outputByte(23));
        AnswerEdges.noSuch("byte", 24, x::outputByte);
    }
}
