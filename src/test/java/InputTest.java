/** Promises 1 to 5. */
final class InputTest {
    public static void main(String[] args) {
        newObject();
        append();
        loadReplacesAll();
        loadLeavesNothingOver();
        loadBadLength();
        loadWithError();
        Check.end("InputTest");
    }

    private static void newObject() {
        SilenceBureau x = new SilenceBureau();
        Check.same("error kind of a new object", 0, x.errorKind());
        Check.same("error offset of a new object", SilenceBureau.NONE, x.errorOffset());
        Check.throwing("no output in a new object", Check.INDEX, () -> x.outputByte(0));
        Check.throwing("no input in a new object", Check.INDEX, () -> x.load(1));
        Check.throwing("nothing saved in slot 0", Check.STATE, () -> x.restore(0));
        Check.throwing("nothing saved in slot 1", Check.STATE, () -> x.restore(1));
        String first = "bureau 2 5; street elm 60 20; street oak 85 50; borrower ann elm 3 40; "
                + "borrower bob oak 7 90; borrower cid oak 2 50; permit oak 10 2; lend ann 4 2; lend bob 6 3; hours 5";
        Check.same("a new object is as its text says", Check.picture(Check.loaded(first)), Check.picture(x));
        String[] written = {"ann@elm 3 26", "bob@oak 7 63", "cid@oak 2 50"};
        for (int b = 0; b < written.length; b++) {
            Check.same("borrower of a new object", written[b], Check.output(x, x.writeBorrower(b)));
        }
        SilenceBureau y = new SilenceBureau();
        x.advance(9);
        Check.same("objects share nothing", 5, y.clock());
    }

    private static void append() {
        SilenceBureau x = new SilenceBureau();
        for (int length = 20; length <= 700; length += 20) {
            Check.same("length after append", length, x.append(1, 2, 3, 4, 5));
        }
        Check.throwing("append beyond 700 bytes", Check.STATE, () -> x.append(1, 2, 3, 4, 5));
        Check.throwing("load more than 700 bytes", Check.INDEX, () -> x.load(701));
        Check.throwing("the 700 bytes are still there", Check.ARGUMENT, () -> x.load(700));
        Check.same("append into the emptied buffer", 20, x.append(0, 0, 0, 0, 0));

        SilenceBureau y = new SilenceBureau();
        // "bure" "au 7" " 3;h" "ours" " 9  "
        y.append(0x62757265, 0x61752037, 0x20333b68, 0x6f757273, 0x20392020);
        Check.same("bytes in order, the most significant first", 0, y.load(20));
        Check.same("grace of the appended text", 7, y.gracePeriod());
        Check.same("clock of the appended text", 9, y.clock());
    }

    private static void loadReplacesAll() {
        SilenceBureau x = new SilenceBureau();
        x.pay(0, 1);
        x.save(0);
        x.save(1);
        int written = x.writeBorrower(0);
        Check.same("loans of the loaded text", 2, Check.load(x,
                "bureau 3 4;street s 7 9;borrower b s 9 999;lend b 0 2;lend b 2 3;hours 1"));
        Check.same("error kind after a good text", 0, x.errorKind());
        Check.same("error offset after a good text", SilenceBureau.NONE, x.errorOffset());
        Check.same("clock", 1, x.clock());
        Check.same("grace", 3, x.gracePeriod());
        Check.same("fee", 4, x.lateFee());
        Check.same("streets", 1, x.streetCount());
        Check.same("borrowers", 1, x.borrowerCount());
        Check.same("permits", 0, x.permitCount());
        Check.same("no change to undo", 0, x.undoCount());
        Check.throwing("undo after load", Check.STATE, () -> x.undo());
        Check.throwing("slot 0 after load", Check.STATE, () -> x.restore(0));
        Check.throwing("slot 1 after load", Check.STATE, () -> x.restore(1));
        Check.same("the output stays", "ann@elm 3 27", Check.output(x, written));
        Check.throwing("the input is empty after load", Check.INDEX, () -> x.load(1));
        Check.same("a state with nothing in it", 0, Check.load(x, "bureau 24 99"));
        Check.same("noise totals begin anew", 0, Check.load(x, "bureau 1 0;street s 1 1"));
        Check.same("noise total of a new street", 0, x.noiseTotal(0));
        Check.same("quiet hours of a new street", 0, x.quietHours(0));
        Check.same("clock of a text without hours", 0, x.clock());
    }

    private static void loadLeavesNothingOver() {
        String long1 = "bureau 1 9;street s 90 90;street t 0 0;borrower a t 9 99;borrower b s 5 999;borrower c s 3 99;"
                + "permit s 30 2;permit t 2 2;lend a 1 1;lend b 3 1;hours 11;lend c 20 1;whistle 0;hours 5";
        String long2 = "bureau 2 8;street u 90 90;street v 0 0;borrower d v 9 99;borrower e u 5 99;permit u 3 2;"
                + "lend d 0 1;hours 1;lend e 5 1";
        String short1 = "bureau 3 7;street w 1 2";
        String[] texts = {long1, long2, short1, long2, long1, "bureau 1 0", long1};
        for (int count = 1; count <= texts.length; count++) {
            SilenceBureau fresh = Check.loaded(texts[count - 1]);
            SilenceBureau x = loadedInTurn(texts, count, long1 + ";hours");
            Check.same("a second text stands alone", Check.picture(fresh), Check.picture(x));
            Check.same("so do its accounts", 0, x.ledgerDifference());
            Check.same("and its borrowers", fresh.borrowerCount(), x.borrowerCount());
            SilenceBureau y = loadedInTurn(texts, count, long1 + ";hours");
            y.advance(40);
            fresh.advance(40);
            Check.same("and what follows from it", Check.picture(fresh), Check.picture(y));
        }
    }

    /** A bureau that has read so many of the texts, with the bad text in between. */
    private static SilenceBureau loadedInTurn(String[] texts, int count, String bad) {
        SilenceBureau x = new SilenceBureau();
        for (int i = 0; i < count; i++) {
            if (i > 0) {
                Check.throwing("an error in between", Check.ARGUMENT, () -> Check.load(x, bad));
            }
            Check.load(x, texts[i]);
        }
        return x;
    }

    private static void loadBadLength() {
        SilenceBureau x = new SilenceBureau();
        Check.throwing("an error to remember", Check.ARGUMENT, () -> Check.load(x, "bureau 1 100"));
        Check.append(x, "bureau 1 0");
        int[] lengths = {-1, 21, 700, 701, Integer.MIN_VALUE, Integer.MAX_VALUE};
        for (int length : lengths) {
            Check.throwing("load(" + length + ")", Check.INDEX, () -> x.load(length));
        }
        Check.same("the error kind stays", 2, x.errorKind());
        Check.same("the error offset stays", 9, x.errorOffset());
        Check.same("the input stays", 0, x.load(10));
        Check.same("the error is gone", 0, x.errorKind());
    }

    private static SilenceBureau beforeError() {
        SilenceBureau x = new SilenceBureau();
        x.pay(1, 5);
        x.save(1);
        x.advance(3);
        x.writeBorrower(1);
        return x;
    }

    private static void loadWithError() {
        String before = Check.picture(beforeError());
        SilenceBureau x = beforeError();
        Check.throwing("an empty text", Check.ARGUMENT, () -> x.load(0));
        Check.same("kind for an empty text", 1, x.errorKind());
        Check.same("offset for an empty text", 0, x.errorOffset());
        Check.throwing("an error at the end", Check.ARGUMENT, () -> Check.load(x,
                "bureau 9 9;street s 7 9;borrower b s 9 999;lend b 0 2;hours 7;whistle 1"));
        Check.same("kind", 2, x.errorKind());
        Check.same("offset", 70, x.errorOffset());
        Check.throwing("the input is empty after an error", Check.INDEX, () -> x.load(1));
        Check.same("the state stays", before, Check.picture(x));
        Check.same("the changes stay", 2, x.undoCount());
        Check.same("the output stays", "bob@oak 7 68", Check.output(x, "bob@oak 7 68".length()));
        Check.throwing("and has no byte more", Check.INDEX, () -> x.outputByte("bob@oak 7 68".length()));
        Check.same("the saved state stays", 5, x.restore(1));
        Check.throwing("the empty slot stays empty", Check.STATE, () -> x.restore(0));
        Check.same("undo after the error", 2, x.undo());
        Check.same("undo restores", before, Check.picture(x));
    }
}
