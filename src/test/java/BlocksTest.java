/** Promises 15 to 19: losses, told one by one or by a text. */
public final class BlocksTest {
    public static void main(String[] args) {
        lose();
        loseWrongly();
        type();
        clear();
        readRightTexts();
        readCountsNewLosses();
        readErrors();
        readErrorsOfBlocks();
        readIsOneAct();
        lostWrongly();
        Checks.end();
    }

    private static void lose() {
        RepairDuty group = Groups.at(0, 0, 0);
        Checks.due("nothing lost", group.lost(1, 0), 0);
        Checks.due("lose", group.lose(1, 0), 1);
        Checks.due("lost", group.lost(1, 0), 1);
        Checks.due("the other has it", group.lost(0, 0), 0);
        Checks.due("the other block", group.lost(1, 1), 0);
        Checks.due("lose again", group.lose(1, 0), 1);
        group.live(2, false);
        Checks.due("a dead one loses", group.lose(2, 0), 2);
        Checks.due("the last one", group.lose(0, 0), 3);
        Checks.due("block 199", group.lose(0, 199), 1);
        Checks.due("lose is an act", group.undo(), 3);
        Checks.due("undone", group.lost(0, 199), 0);
        Checks.due("not undone", group.lost(0, 0), 1);
    }

    private static void loseWrongly() {
        RepairDuty group = Groups.at(0, 0);
        int[][] wrong = {{-1, 0}, {2, 0}, {10, 0}, {0, -1}, {0, 200}, {Integer.MIN_VALUE, 0}, {Integer.MAX_VALUE, 0},
            {0, Integer.MIN_VALUE}, {0, Integer.MAX_VALUE}};
        for (int[] pair : wrong) {
            Checks.due("lose " + pair[0] + " " + pair[1], group.lose(pair[0], pair[1]), Groups.BAD);
        }
        Checks.due("errors are no acts", Groups.historyOf(group), 2);
    }

    private static void type() {
        RepairDuty group = new RepairDuty();
        for (int c : new int[] {31, 127, -1, 256, 10, Integer.MIN_VALUE, Integer.MAX_VALUE}) {
            Checks.due("type " + c, group.type(c), Groups.BAD);
        }
        for (int i = 1; i <= 60; i++) {
            Checks.due("type", group.type(i % 2 == 0 ? 32 : 126), i);
        }
        Checks.due("full", group.type(65), Groups.FULL);
        Checks.due("wrong and full", group.type(31), Groups.BAD);
        Checks.due("still 60", group.clear(), 60);
        Checks.due("type is no act", group.undo(), Groups.NONE);
        Checks.due("from the front again", group.type(48), 1);
    }

    private static void clear() {
        RepairDuty group = Groups.at(0, 0);
        Checks.due("empty", group.clear(), 0);
        Groups.type(group, "1:0");
        Checks.due("three", group.clear(), 3);
        Checks.due("empty again", group.clear(), 0);
        Checks.due("nothing to read", group.read(), -100);
        Checks.due("clear is no act", Groups.historyOf(group), 2);
    }

    private static void readRightTexts() {
        RepairDuty group = Groups.at(0, 0, 0, 0, 0, 0, 0, 0, 0, 0);
        Groups.type(group, "0:0;007:9;12:3;199:0123456789");
        Checks.due("read", group.read(), 13);
        Checks.due("the buffer is empty", group.clear(), 0);
        Checks.due("0 of 0", group.lost(0, 0), 1);
        Checks.due("007 of 9", group.lost(9, 7), 1);
        Checks.due("12 of 3", group.lost(3, 12), 1);
        Checks.due("1 of 3", group.lost(3, 1), 0);
        for (int member = 0; member < 10; member++) {
            Checks.due("199 of all", group.lost(member, 199), 1);
        }
        Checks.due("lost by 9", group.member(9, 5), 2);
        Checks.due("60 characters", Groups.readOf(group,
            "100:0;101:1;102:2;103:3;104:4;105:5;106:6;107:7;108:8;109:99"), 10);
        Checks.due("58 members", Groups.readOf(group, "5:" + "0123456789".repeat(5) + "01234567"), 10);
    }

    private static void readCountsNewLosses() {
        RepairDuty group = Groups.at(0, 0, 0);
        group.lose(1, 5);
        Checks.due("one was there", Groups.readOf(group, "5:012"), 2);
        Checks.due("all were there", Groups.readOf(group, "5:012;05:1"), 0);
        Checks.due("twice the same", Groups.readOf(group, "6:00;6:0;7:1;006:01"), 3);
        Checks.due("also with nothing new an act", group.undo(), 3);
        Checks.due("undone", group.lost(0, 6), 0);
    }

    private static void readErrors() {
        RepairDuty group = Groups.at(0, 0, 0);
        String[] texts = {"", "5", "55", "555", "5:", "5:0;", "5:0;6", "5:0;6:", // end too early
            "x", ":", ";", " 5:0", "5 :0", "5x", "5;", "1234:0", "999x", "5::0", "5:;", "5:3", "5:03", "5:0:", "5:0,",
            "5:0;;", "5:0;:", "5:0;6;", "5:0;6:3", "5:0 ", "-1:0", "5:0;1234", "5:0;12:x", "5:/", "/", "5:02;19:9"};
        int[] places = {0, 1, 2, 3, 2, 4, 5, 6,
            0, 0, 0, 0, 1, 1, 1, 3, 3, 2, 2, 2, 3, 3, 3,
            4, 4, 5, 6, 3, 0, 7, 7, 2, 0, 8};
        Checks.due("as many places as texts", places.length, texts.length);
        long before = group.fingerprint();
        for (int i = 0; i < texts.length; i++) {
            Groups.type(group, texts[i]);
            Checks.due("read " + texts[i], group.read(), -100 - places[i]);
            Checks.due("the buffer stays, " + texts[i], group.clear(), texts[i].length());
        }
        Checks.due("nothing is lost", group.fingerprint(), before);
        Checks.due("errors are no acts", Groups.historyOf(group), 3);
        Checks.due("no members", Groups.readOf(new RepairDuty(), "5:0"), -102);
        Checks.due("member 9 of 10", Groups.readOf(Groups.at(0, 0, 0, 0, 0, 0, 0, 0, 0), "5:89"), -103);
    }

    private static void readErrorsOfBlocks() {
        RepairDuty group = Groups.at(0, 0);
        Checks.due("200", Groups.readOf(group, "200:0"), -100);
        Checks.due("999", Groups.readOf(group, "999:0"), -100);
        Checks.due("199", Groups.readOf(group, "199:0"), 1);
        Checks.due("the second one", Groups.readOf(group, "3:0;200:1"), -104);
        Checks.due("the first such one", Groups.readOf(group, "3:0;0:01;300:1;400:1"), -109);
        Checks.due("a wrong sign comes first", Groups.readOf(group, "200:0;3:x"), -108);
        Checks.due("a wrong member comes first", Groups.readOf(group, "200:2"), -104);
        Checks.due("an early end comes first", Groups.readOf(group, "200:"), -104);
        Checks.due("nothing of it is lost", group.lost(0, 3), 0);
    }

    private static void readIsOneAct() {
        RepairDuty group = Groups.at(0, 0);
        Groups.type(group, "1:0;2:01");
        group.read();
        Groups.type(group, "9:");
        Checks.due("undo", group.undo(), 2);
        Checks.due("1 is undone", group.lost(0, 1), 0);
        Checks.due("2 is undone", group.lost(1, 2), 0);
        Checks.due("the buffer is no part of it", group.clear(), 2);
    }

    private static void lostWrongly() {
        RepairDuty group = Groups.at(0, 0);
        int[][] wrong = {{-1, 0}, {2, 0}, {32, 0}, {0, -1}, {0, 200}, {Integer.MIN_VALUE, 0}, {Integer.MAX_VALUE, 0},
            {0, Integer.MIN_VALUE}, {0, Integer.MAX_VALUE}};
        for (int[] pair : wrong) {
            Checks.due("lost " + pair[0] + " " + pair[1], group.lost(pair[0], pair[1]), Groups.BAD);
        }
        group.lost(0, 0);
        Checks.due("lost is no act", Groups.historyOf(group), 2);
    }
}
