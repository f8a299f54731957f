/** Promises 15 to 19 and the texts, sentence by sentence: the first and the last that is allowed, the first wrong. */
public final class EdgesOfBlocksTest {
    // 60 characters, right for ten members: no more than these can stand in the buffer.
    private static final String LONGEST = "100:0;101:1;102:2;103:3;104:4;105:5;106:6;107:7;108:8;109:99";

    public static void main(String[] args) {
        blocksHadAtFirst();
        noMemberToLose();
        blocksToLose();
        numberOfThoseThatLost();
        noMemberToTellOf();
        blocksToTellOf();
        lostOrNot();
        signs();
        emptyAtFirst();
        fullBuffer();
        wrongSignInAFullBuffer();
        lengthsOfType();
        clearOfEmptyAndFull();
        emptyText();
        textsOfOneGroup();
        digitsOfBlocks();
        digitsOfMembers();
        signsThatCannotStand();
        endsTooEarly();
        severalGroups();
        placesInALongText();
        tooGreatBlocks();
        firstErrorOfAText();
        bufferAfterRead();
        bufferAfterAnError();
        newLosses();
        readIsOneAct();
        readErrorChangesNothing();
        Checks.end();
    }

    private static void blocksHadAtFirst() {
        Checks.sentence("BLOCKS", "are numbered from 0 to 199. Each member has each block, but those that it has "
            + "lost.");
        RepairDuty group = Edges.pair();
        for (int block = 0; block < 200; block++) {
            Checks.due("lost at first", group.lost(0, block) + group.lost(1, block), 0);
        }
        group.lose(0, 0);
        group.lose(1, 199);
        Checks.due("0 of 0", group.lost(0, 0), 1);
        Checks.due("0 of 1", group.lost(1, 0), 0);
        Checks.due("199 of 0", group.lost(0, 199), 0);
        Checks.due("199 of 1", group.lost(1, 199), 1);
        group.join(1, 1);
        Checks.due("a new one has it", group.lost(2, 0) + group.lost(2, 199), 0);
    }

    private static void noMemberToLose() {
        Checks.sentence("Promise 15", "BAD if there is no such member");
        Edges.refused("no members", Edges::fresh, group -> group.lose(0, 0), Groups.BAD);
        for (int member : Edges.outside(0, 1)) {
            Edges.refused("lose " + member, Edges::pair, group -> group.lose(member, 0), Groups.BAD);
        }
        for (int member : Edges.outside(0, 9)) {
            Edges.refused("of ten, " + member, Edges::tenDrawn, group -> group.lose(member, 199), Groups.BAD);
        }
        Edges.act("the first of ten", Edges::tenDrawn, group -> group.lose(0, 199), 1);
        Edges.act("the last of ten", Edges::tenDrawn, group -> group.lose(9, 199), 1);
    }

    private static void blocksToLose() {
        Checks.sentence("Promise 15", "or block is not in its range.");
        for (int block : Edges.outside(0, 199)) {
            Edges.refusedEverywhere("lose block " + block, group -> group.lose(0, block), Groups.BAD);
        }
        Edges.act("the first one", Edges::pair, group -> group.lose(1, 0), 1);
        Edges.act("the last one", Edges::pair, group -> group.lose(1, 199), 1);
    }

    private static void numberOfThoseThatLost() {
        Checks.sentence("Promise 15", "Returns the number of members that have lost it then");
        for (int block : new int[] {0, 199}) {
            RepairDuty group = Edges.ten();
            group.live(3, false);
            for (int member = 0; member < 10; member++) {
                Checks.due("lose", group.lose(member, block), member + 1);
                Checks.due("once more", group.lose(member, block), member + 1);
            }
            Checks.due("another block", group.lose(9, 100), 1);
        }
        Edges.Maker lost = Edges.after(Edges::pair, group -> group.lose(1, 9));
        Edges.idleAct("once more is an act, too", lost, group -> group.lose(1, 9), 1);
        Edges.act("the other", lost, group -> group.lose(0, 9), 2);
    }

    private static void noMemberToTellOf() {
        Checks.sentence("Promise 19", "BAD if there is no such member");
        Edges.told("no members", Edges::fresh, group -> group.lost(0, 0), Groups.BAD);
        for (int member : Edges.outside(0, 1)) {
            Edges.told("lost " + member, Edges::pair, group -> group.lost(member, 0), Groups.BAD);
        }
        for (int member : Edges.outside(0, 9)) {
            Edges.told("of ten, " + member, Edges::tenDrawn, group -> group.lost(member, 0), Groups.BAD);
        }
    }

    private static void blocksToTellOf() {
        Checks.sentence("Promise 19", "or block is not in its range.");
        for (int block : Edges.outside(0, 199)) {
            Edges.told("lost " + block, Edges::pair, group -> group.lost(0, block), Groups.BAD);
            Edges.told("lost " + block, Edges::busy, group -> group.lost(4, block), Groups.BAD);
        }
    }

    private static void lostOrNot() {
        Checks.sentence("Promise 19", "Returns 1 if so, otherwise 0");
        for (int block : new int[] {0, 100, 199}) {
            for (int member : new int[] {0, 9}) {
                Edges.told("not lost", Edges::tenDrawn, group -> group.lost(member, block), 0);
                Edges.Maker lost = Edges.after(Edges::tenDrawn, group -> group.lose(member, block));
                Edges.told("lost", lost, group -> group.lost(member, block), 1);
                Edges.told("not by another", lost, group -> group.lost(5, block), 0);
                Edges.told("got", Edges.after(lost, group -> group.repair(block)),
                    group -> group.lost(member, block), 0);
                Edges.told("undone", Edges.after(lost, group -> group.undo()), group -> group.lost(member, block), 0);
            }
        }
    }

    private static void signs() {
        Checks.sentence("Promise 16", "BAD if c is not in its range");
        for (int c : Edges.outside(32, 126)) {
            Edges.refusedEverywhere("type " + c, group -> group.type(c), Groups.BAD);
        }
        for (int c : new int[] {31, 127, '0' + 256, '0' - 256, '0' + 65536}) {
            Edges.refused("type " + c, Edges::fresh, group -> group.type(c), Groups.BAD);
        }
        for (int c = 32; c <= 126; c++) {
            Checks.due("type " + c, new RepairDuty().type(c), 1);
        }
    }

    private static void emptyAtFirst() {
        Checks.sentence("TEXTS", "with codes from 32 to 126, initially empty");
        Edges.told("cleared", Edges::fresh, group -> group.clear(), 0);
        Checks.due("the first character", Edges.fresh().type(32), 1);
    }

    private static Edges.Maker typed(Edges.Maker maker, String text) {
        return () -> {
            RepairDuty group = maker.make();
            Groups.type(group, text);
            return group;
        };
    }

    private static void fullBuffer() {
        Checks.sentence("TEXTS", "There is a buffer of at most 60 characters");
        Checks.due("the longest text", LONGEST.length(), 60);
        Edges.Maker full = typed(Edges::ten, LONGEST);
        Edges.refused("a digit", full, group -> group.type('0'), Groups.FULL);
        Edges.refused("a space", full, group -> group.type(32), Groups.FULL);
        Edges.refused("a tilde", full, group -> group.type(126), Groups.FULL);
        RepairDuty group = full.make();
        for (int i = 0; i < 9; i++) {
            Checks.due("again and again", group.type('x'), Groups.FULL);
        }
        Checks.due("the text is as it was", group.read(), 10);
        Checks.due("the last sign is as it was", group.lost(9, 109), 1);
        Checks.due("there is room again", group.type('0'), 1);
        RepairDuty almost = typed(Edges::ten, LONGEST.substring(0, 59)).make();
        Checks.due("the 60th", almost.type('8'), 60);
        Checks.due("the 61st", almost.type('8'), Groups.FULL);
    }

    private static void wrongSignInAFullBuffer() {
        Checks.sentence("Promise 16", "BAD if c is not in its range; FULL if there are 60 characters.");
        for (int c : Edges.outside(32, 126)) {
            Edges.refused("both, by " + c, typed(Edges::ten, LONGEST), group -> group.type(c), Groups.BAD);
        }
    }

    private static void lengthsOfType() {
        Checks.sentence("Promise 16", "Returns the number of characters in the buffer");
        RepairDuty group = Edges.busy();
        group.clear();
        for (int i = 1; i <= 60; i++) {
            Checks.due("type", group.type(i + 40), i);
        }
        Checks.due("type is no act", group.undo(), 3);
        Checks.due("an undo leaves the buffer", group.clear(), 60);
    }

    private static void clearOfEmptyAndFull() {
        Checks.sentence("Promise 17", "Returns the number of characters that it had.");
        for (int length : new int[] {0, 1, 59, 60}) {
            RepairDuty group = Edges.busy();
            group.clear();
            Groups.type(group, LONGEST.substring(0, length));
            long before = group.fingerprint();
            Checks.due("clear of " + length, group.clear(), length);
            Checks.due("clear of none", group.clear(), 0);
            Checks.due("all else stays", group.fingerprint(), before);
            Checks.due("nothing to read", group.read(), -100);
            Checks.due("the first one again", group.type('1'), 1);
            Checks.due("clear is no act", group.undo(), 3);
        }
        RepairDuty group = typed(Edges::pair, "5:0").make();
        group.clear();
        Groups.type(group, "6:1");
        Checks.due("read", group.read(), 1);
        Checks.due("what was cleared is gone", group.lost(0, 5), 0);
        Checks.due("what was typed then is not", group.lost(1, 6), 1);
    }

    /** The text is wrong at this place: read() says so and changes nothing, the buffer neither. */
    private static void wrong(Edges.Maker maker, String text, int place) {
        Edges.refused("read \"" + text + "\"", typed(maker, text), group -> group.read(), -100 - place);
    }

    /** The text is right and tells this many losses that were not there before. */
    private static void right(Edges.Maker maker, String text, int losses) {
        RepairDuty group = typed(maker, text).make();
        Checks.due("read \"" + text + "\"", group.read(), losses);
        Checks.due("the buffer is empty then", group.clear(), 0);
    }

    private static void emptyText() {
        Checks.sentence("TEXTS", "one or more groups");
        wrong(Edges::fresh, "", 0);
        wrong(Edges::pair, "", 0);
        wrong(Edges::tenDrawn, "", 0);
    }

    private static void textsOfOneGroup() {
        Checks.sentence("TEXTS", "a block (one to three digits), \":\", and one or more members, each a digit");
        right(Edges::ten, "0:0", 1);
        right(Edges::ten, "199:9", 1);
        right(Edges::ten, "00:09", 2);
        right(Edges::ten, "000:0123456789", 10);
        right(Edges::ten, "5:" + "0123456789".repeat(5) + "01234567", 10);
        RepairDuty group = typed(Edges::ten, "19:38").make();
        group.read();
        Checks.due("19 of 3", group.lost(3, 19), 1);
        Checks.due("19 of 8", group.lost(8, 19), 1);
        Checks.due("lost in all", group.member(3, 5) + group.member(8, 5), 2);
    }

    private static void digitsOfBlocks() {
        Checks.sentence("TEXTS", "a block (one to three digits)");
        wrong(Edges::pair, ":0", 0);
        right(Edges::pair, "1:0", 1);
        right(Edges::pair, "12:0", 1);
        right(Edges::pair, "123:0", 1);
        wrong(Edges::pair, "1234:0", 3);
        wrong(Edges::pair, "0001:0", 3);
        wrong(Edges::pair, "0000000000", 3);
        wrong(Edges::pair, "3:0;:0", 4);
        wrong(Edges::pair, "3:0;1234:0", 7);
        for (String zeros : new String[] {"7:1", "07:1", "007:1"}) {
            RepairDuty group = typed(Edges::pair, zeros).make();
            Checks.due("read " + zeros, group.read(), 1);
            Checks.due("block 7 by " + zeros, group.lost(1, 7), 1);
        }
    }

    private static void digitsOfMembers() {
        Checks.sentence("TEXTS", "(a digit for a member that there is not, too)");
        for (int members = 0; members <= 10; members++) {
            int count = members;
            Edges.Maker maker = () -> Groups.at(new int[count]);
            for (int digit = 0; digit <= 9; digit++) {
                if (digit < count) {
                    right(maker, "5:" + digit, 1);
                } else {
                    wrong(maker, "5:" + digit, 2);
                    wrong(maker, "5:" + digit + ";6:0", 2);
                }
            }
            if (count > 0 && count < 10) {
                wrong(maker, "5:0" + (count - 1) + count, 4);
            }
        }
        Edges.Maker dead = Edges.after(Edges::pair, group -> group.live(1, false));
        right(dead, "5:1", 1);
        RepairDuty joined = typed(Edges::pair, "5:2").make();
        Checks.due("no member 2 yet", joined.read(), -102);
        joined.join(1, 1);
        Checks.due("the same text with it", joined.read(), 1);
        Groups.type(joined, "5:2");
        joined.undo();
        joined.undo();
        Checks.due("and without it again", joined.read(), -102);
    }

    /** A sign from 32 to 126 that is none of the digits and neither of these two. */
    private static boolean isOther(char c) {
        return (c < '0' || c > '9') && c != ':' && c != ';';
    }

    private static void signsThatCannotStand() {
        Checks.sentence("TEXTS", "the index of the first character that cannot stand at its place");
        for (char c = 32; c <= 126; c++) {
            if (isOther(c)) {
                wrong(Edges::pair, "" + c, 0);
                wrong(Edges::pair, "5" + c, 1);
                wrong(Edges::pair, "555" + c, 3);
                wrong(Edges::pair, "5:" + c, 2);
                wrong(Edges::pair, "5:0" + c, 3);
                wrong(Edges::pair, "5:0;" + c, 4);
            }
        }
        String[] texts = {":", ";", "5;", "55;", "555;", "5::", "5:;", "5:0:", "5:0;;", "5:0;:", "5:0;6;", "5:0;6:;",
            "5:01:", " 5:0", "5 :0", "5: 0", "5:0 ", "5:0; 6:0", "-5:0", "5:-1", "5:0,6:0", "5:0;6:0;;"};
        int[] places = {0, 0, 1, 2, 3, 2, 2, 3, 4, 4, 5, 6, 4, 0, 1, 2, 3, 4, 0, 2, 3, 8};
        Checks.due("a place for each text", places.length, texts.length);
        for (int i = 0; i < texts.length; i++) {
            wrong(Edges::pair, texts[i], places[i]);
        }
    }

    private static void endsTooEarly() {
        Checks.sentence("TEXTS", "or its length if it ends too early");
        String[] texts = {"", "5", "55", "555", "5:", "55:", "555:", "5:0;", "5:01;", "5:0;6", "5:0;66", "5:0;666",
            "5:0;6:", "5:0;6:1;", "200", "200:", "5:0;200:"};
        for (String text : texts) {
            wrong(Edges::pair, text, text.length());
        }
        wrong(Edges::ten, LONGEST.substring(0, 58), 58);
        wrong(Edges::ten, LONGEST.substring(0, 54), 54);
        wrong(Edges::ten, LONGEST.substring(0, 56) + "0:0;", 60);
        wrong(Edges::ten, "5:" + "0".repeat(57) + ";", 60);
        wrong(Edges::ten, LONGEST.substring(0, 54) + "0:000;", 60);
        wrong(Edges::ten, LONGEST.substring(0, 54) + "09:00;", 60);
        wrong(Edges::ten, "5:" + "0".repeat(56) + ";1", 60);
        wrong(Edges::ten, "5:" + "0".repeat(54) + ";19:", 60);
    }

    private static void severalGroups() {
        Checks.sentence("TEXTS", "one or more groups with \";\" between them");
        right(Edges::pair, "0:0;199:1", 2);
        right(Edges::pair, "1:0;2:01;3:10;4:1", 6);
        right(Edges::pair, "1:0;2:0;3:0;4:0;5:0;6:0;7:0;8:0;9:0;0:0;1:1;2:1;3:1;4:1;5:10", 15);
        right(Edges::ten, LONGEST, 10);
        RepairDuty group = typed(Edges::pair, "0:0;199:1;10:01").make();
        group.read();
        int[] blocks = {0, 199, 10, 1, 19};
        int[] sets = {1, 2, 3, 0, 0};
        for (int i = 0; i < blocks.length; i++) {
            Checks.due("set of " + blocks[i], group.lost(0, blocks[i]) + 2 * group.lost(1, blocks[i]), sets[i]);
        }
    }

    private static void placesInALongText() {
        Checks.sentence("TEXTS", "The error place of a text is the index");
        for (int place = 0; place < 60; place++) {
            wrong(Edges::ten, LONGEST.substring(0, place) + "x" + LONGEST.substring(place + 1), place);
        }
    }

    private static void tooGreatBlocks() {
        Checks.sentence("TEXTS", "but a block is greater than 199, the index of its first digit, for the first such "
            + "block");
        right(Edges::pair, "198:0", 1);
        right(Edges::pair, "199:0", 1);
        wrong(Edges::pair, "200:0", 0);
        wrong(Edges::pair, "201:01", 0);
        wrong(Edges::pair, "299:1", 0);
        wrong(Edges::pair, "3:1;999:1", 4);
        wrong(Edges::pair, "300:0", 0);
        wrong(Edges::pair, "999:0", 0);
        wrong(Edges::pair, "1:0;200:0", 4);
        wrong(Edges::pair, "01:01;999:0;3:1", 6);
        wrong(Edges::pair, "199:0;200:0", 6);
        wrong(Edges::pair, "200:0;199:0", 0);
        wrong(Edges::pair, "200:0;300:0", 0);
        wrong(Edges::pair, "1:0;300:0;200:0", 4);
        wrong(Edges::ten, "1:" + "0".repeat(52) + ";200:0", 55);
        wrong(Edges::ten, LONGEST.substring(0, 54) + "209:99", 54);
    }

    private static void firstErrorOfAText() {
        Checks.sentence("TEXTS", "if there is none, but a block is greater than 199");
        wrong(Edges::pair, "200:0;1:x", 8);
        wrong(Edges::pair, "200:0;1:2", 8);
        wrong(Edges::pair, "200:2", 4);
        wrong(Edges::pair, "200:0;", 6);
        wrong(Edges::pair, "200:0;1", 7);
        wrong(Edges::pair, "999:0;1:0;1:0:", 13);
        wrong(Edges::pair, "2000:0", 3);
        wrong(Edges::pair, "x;200:0", 0);
    }

    private static void bufferAfterRead() {
        Checks.sentence("Promise 18", "The buffer is empty then");
        RepairDuty group = typed(Edges::ten, LONGEST).make();
        Checks.due("read", group.read(), 10);
        Checks.due("nothing to read", group.read(), -100);
        Checks.due("length", group.clear(), 0);
        Checks.due("the first one again", group.type('x'), 1);
        group.undo();
        Checks.due("an undo brings no text back", group.clear(), 1);
        Checks.due("no loss any more", group.lost(9, 109), 0);
    }

    private static void bufferAfterAnError() {
        Checks.sentence("Promise 18", "with an error it stays");
        RepairDuty group = typed(Edges::pair, "12").make();
        Checks.due("ends too early", group.read(), -102);
        Checks.due("one more", group.type(':'), 3);
        Checks.due("ends too early", group.read(), -103);
        Checks.due("one more", group.type('0'), 4);
        Checks.due("right", group.read(), 1);
        Checks.due("it was block 12", group.lost(0, 12), 1);
        Groups.type(group, "200:0");
        Checks.due("too great", group.read(), -100);
        Checks.due("still too great", group.read(), -100);
        Checks.due("five characters", group.clear(), 5);
        Edges.Maker full = typed(Edges::pair, "x".repeat(60));
        Edges.refused("a full buffer", full, sixty -> sixty.read(), -100);
        RepairDuty sixty = full.make();
        sixty.read();
        Checks.due("still full", sixty.type('0'), Groups.FULL);
    }

    private static void newLosses() {
        Checks.sentence("Promise 18", "Returns how many losses there are that were not there before");
        right(Edges::pair, "5:0000", 1);
        right(Edges::pair, "5:0;05:0;005:0", 1);
        right(Edges::pair, "5:01;5:10", 2);
        Edges.Maker lost = Edges.after(Edges::pair, group -> group.lose(1, 5));
        right(lost, "5:1", 0);
        right(lost, "5:0", 1);
        right(lost, "5:01", 1);
        right(lost, "6:1;5:1", 1);
        Edges.Maker got = Edges.after(Edges::tenDrawn, group -> group.lose(1, 5), group -> group.repair(5));
        right(got, "5:1", 1);
        right(Edges::ten, "0:0123456789;1:0123456789;2:0123456789;3:0123456789;4:012345", 46);
    }

    private static void readIsOneAct() {
        Checks.sentence("Promise 18", "This is one act.");
        Edges.act("one loss", typed(Edges::pair, "5:0"), group -> group.read(), 1);
        Edges.act("many losses", typed(Edges::tenDrawn, LONGEST), group -> group.read(), 10);
        Edges.idleAct("none that is new", typed(Edges.after(Edges::pair, group -> group.lose(1, 5)), "5:1;5:1"),
            group -> group.read(), 0);
        Edges.act("on a busy group", typed(Edges::busy, "0;13:4"), group -> group.read(), 2);
    }

    private static void readErrorChangesNothing() {
        Checks.sentence("Promise 18", "-100 minus the error place if the text has an error.");
        wrong(Edges::tenDrawn, "1:0;2:0;3:0;4:0;5:0;6:0;7:0;8:", 30);
        wrong(Edges::tenDrawn, "1:0;2:0;3:0;4:0;5:0;6:0;7:0;200:0", 28);
        Edges.refused("busy", Edges::busy, group -> group.read(), -103);
        Edges.refused("busy, too great", typed(Edges::busy, "0;13:1;200:1"), group -> group.read(), -110);
        Edges.refused("busy, no such member", typed(Edges::busy, "45"), group -> group.read(), -104);
    }
}
