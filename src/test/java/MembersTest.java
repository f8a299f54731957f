/** Promises 1 to 7: a new object, the members and the settings. */
public final class MembersTest {
    public static void main(String[] args) {
        newObject();
        join();
        joinWrongly();
        change();
        changeWrongly();
        live();
        memberNumbers();
        memberWrongly();
        settings();
        settingsWrongly();
        about();
        Checks.end();
    }

    private static void newObject() {
        RepairDuty group = new RepairDuty();
        int[] due = {100, 50, 2, 5, 3, 0, 0, 0, 0, 0};
        for (int what = 0; what < due.length; what++) {
            Checks.due("new: about " + what, group.about(what), due[what]);
        }
        Checks.due("new: member", group.member(0, 0), Groups.BAD);
        Checks.due("new: seed", group.seed(), Groups.NO_SEED);
        Checks.due("new: duty", group.duty(0), Groups.NONE);
        Checks.due("new: past", group.past(0, 0), Groups.NONE);
        Checks.due("new: clear", group.clear(), 0);
        Checks.due("new: undo", group.undo(), Groups.NONE);
        Checks.due("BAD", RepairDuty.BAD, Groups.BAD);
        Checks.due("STATE", RepairDuty.STATE, Groups.STATE);
        Checks.due("FULL", RepairDuty.FULL, Groups.FULL);
        Checks.due("NONE", RepairDuty.NONE, Groups.NONE);
    }

    private static void join() {
        RepairDuty group = new RepairDuty();
        for (int i = 0; i < 10; i++) {
            Checks.due("join", group.join(i % 9 + 1, 100 * i), i);
            Checks.due("about 5", group.about(5), i + 1);
        }
        for (int i = 0; i < 10; i++) {
            Checks.due("weight " + i, group.member(i, 0), i % 9 + 1);
            Checks.due("position " + i, group.member(i, 1), 100 * i);
        }
        Checks.due("join a full group", group.join(1, 0), Groups.FULL);
        Checks.due("join a full group wrongly", group.join(0, 0), Groups.BAD);
        Checks.due("about 5 when full", group.about(5), 10);
        Checks.due("join is an act", Groups.historyOf(group), 4);
        Checks.due("an undone member", group.member(9, 0), Groups.BAD);
        Checks.due("join, edges", Groups.at().join(9, 1000), 0);
        Checks.due("join, edges", Groups.at().join(1, 0), 0);
    }

    private static void joinWrongly() {
        RepairDuty group = new RepairDuty();
        int[][] wrong = {{0, 0}, {10, 0}, {-1, 0}, {1, -1}, {1, 1001}, {Integer.MIN_VALUE, 5}, {5, Integer.MAX_VALUE}};
        for (int[] pair : wrong) {
            Checks.due("join " + pair[0] + " " + pair[1], group.join(pair[0], pair[1]), Groups.BAD);
        }
        Checks.due("no member joined", group.about(5), 0);
        Checks.due("an error is no act", Groups.historyOf(group), 0);
    }

    private static void change() {
        RepairDuty group = Groups.at(10, 20);
        Checks.due("change weight", group.change(1, 0, 9), 2);
        Checks.due("change weight again", group.change(1, 0, 1), 9);
        Checks.due("change position", group.change(1, 1, 1000), 20);
        Checks.due("change position again", group.change(1, 1, 0), 1000);
        Checks.due("weight then", group.member(1, 0), 1);
        Checks.due("position then", group.member(1, 1), 0);
        Checks.due("the other's weight", group.member(0, 0), 1);
        Checks.due("the other's position", group.member(0, 1), 10);
        group.undo();
        Checks.due("position undone", group.member(1, 1), 1000);
        group.undo();
        group.undo();
        Checks.due("weight undone", group.member(1, 0), 9);
        Checks.due("change to the same", group.change(0, 0, 1), 1);
        Checks.due("is an act too", group.undo(), 1);
    }

    private static void changeWrongly() {
        RepairDuty group = Groups.at(10);
        int[][] wrong = {{-1, 0, 1}, {1, 0, 1}, {10, 0, 1}, {0, -1, 1}, {0, 2, 1}, {0, 0, 0}, {0, 0, 10}, {0, 1, -1},
            {0, 1, 1001}, {Integer.MAX_VALUE, 0, 1}, {Integer.MIN_VALUE, 1, 1}, {0, Integer.MIN_VALUE, 1}};
        for (int[] row : wrong) {
            Checks.due("change " + row[0] + " " + row[1] + " " + row[2],
                group.change(row[0], row[1], row[2]), Groups.BAD);
        }
        Checks.due("weight stays", group.member(0, 0), 1);
        Checks.due("position stays", group.member(0, 1), 10);
        Checks.due("only join was an act", Groups.historyOf(group), 1);
    }

    private static void live() {
        RepairDuty group = Groups.at(0, 0);
        Checks.due("living at first", group.member(1, 2), 1);
        Checks.due("lives on", group.live(1, true), 1);
        Checks.due("dies", group.live(1, false), 1);
        Checks.due("dead", group.member(1, 2), 0);
        Checks.due("the other lives", group.member(0, 2), 1);
        Checks.due("stays dead", group.live(1, false), 0);
        Checks.due("lives again", group.live(1, true), 0);
        Checks.due("living", group.member(1, 2), 1);
        Checks.due("live is an act", Groups.historyOf(group), 4);
        Checks.due("undone", group.member(1, 2), 0);
        Groups.commitAndReveal(group, 0, 5);
        group.live(0, false);
        Checks.due("a reveal stays", group.member(0, 8), 2);
        for (int member : new int[] {-1, 2, 10, 32, Integer.MIN_VALUE, Integer.MAX_VALUE}) {
            Checks.due("live " + member, group.live(member, false), Groups.BAD);
        }
    }

    private static void memberNumbers() {
        RepairDuty group = Groups.at(0, 30, 60);
        int[] due = {3, 60, 1, 0, Groups.NONE, 0, 0, 0, 0};
        for (int what = 0; what < due.length; what++) {
            Checks.due("member 2 " + what, group.member(2, what), due[what]);
        }
        group.lose(2, 0);
        group.lose(2, 199);
        group.lose(2, 199);
        group.lose(1, 7);
        Checks.due("lost by 2", group.member(2, 5), 2);
        Checks.due("lost by 1", group.member(1, 5), 1);
        Checks.due("lost by 0", group.member(0, 5), 0);
        group.commit(1, Groups.mix(4));
        Checks.due("committed", group.member(1, 8), 1);
        group.reveal(1, 4);
        Checks.due("rightly revealed", group.member(1, 8), 2);
        group.reveal(1, 3);
        Checks.due("wrongly revealed", group.member(1, 8), 3);
        Groups.drawn(group, 1, 2);
        Checks.due("nothing after the draw", group.member(1, 8), 0);
        for (int rank = 0; rank < 3; rank++) {
            Checks.due("rank", group.member(group.duty(rank), 4), rank);
        }
        group.join(1, 1);
        Checks.due("no rank until the next draw", group.member(3, 4), Groups.NONE);
        group.repair(199);
        Checks.due("lost by 2 after the repair", group.member(2, 5), 1);
    }

    private static void memberWrongly() {
        RepairDuty group = Groups.at(0, 30);
        int[][] wrong = {{-1, 0}, {2, 0}, {10, 0}, {0, -1}, {0, 9}, {Integer.MAX_VALUE, 0}, {Integer.MIN_VALUE, 0},
            {0, Integer.MAX_VALUE}, {0, Integer.MIN_VALUE}};
        for (int[] pair : wrong) {
            Checks.due("member " + pair[0] + " " + pair[1], group.member(pair[0], pair[1]), Groups.BAD);
        }
        group.member(0, 0);
        Checks.due("member is no act", Groups.historyOf(group), 2);
    }

    private static void settings() {
        int[] first = {100, 50, 2, 5, 3};
        int[] lowest = {1, 0, 1, 0, 0};
        int[] highest = {1000, 500, 10, 100, 100};
        RepairDuty group = new RepairDuty();
        for (int i = 0; i < 5; i++) {
            Checks.due("set lowest " + i, group.set(i, lowest[i]), first[i]);
            Checks.due("about lowest " + i, group.about(i), lowest[i]);
            Checks.due("set highest " + i, group.set(i, highest[i]), lowest[i]);
            Checks.due("about highest " + i, group.about(i), highest[i]);
            Checks.due("below the lowest " + i, group.set(i, lowest[i] - 1), Groups.BAD);
            Checks.due("above the highest " + i, group.set(i, highest[i] + 1), Groups.BAD);
            Checks.due("about after errors " + i, group.about(i), highest[i]);
        }
        Checks.due("undo of set", group.undo(), 3);
        Checks.due("about undone", group.about(4), 0);
        Checks.due("the others stay", group.about(3), 100);
    }

    private static void settingsWrongly() {
        RepairDuty group = new RepairDuty();
        for (int setting : new int[] {-1, 5, 6, Integer.MIN_VALUE, Integer.MAX_VALUE}) {
            Checks.due("set " + setting, group.set(setting, 5), Groups.BAD);
        }
        Checks.due("set to the least int", group.set(0, Integer.MIN_VALUE), Groups.BAD);
        Checks.due("an error is no act", Groups.historyOf(group), 0);
    }

    private static void about() {
        RepairDuty group = Groups.drawn(Groups.at(0, 30, 60, 90), 8, 9);
        group.set(0, 1);
        group.lose(0, 3);
        group.lose(1, 3);
        group.repair(3);
        Checks.due("members", group.about(5), 4);
        Checks.due("round", group.about(6), 1);
        Checks.due("repairs", group.about(7), 1);
        Checks.due("questions", group.about(8), 2);
        Checks.due("silent", group.about(9), 0);
        Groups.drawn(group, 1, 1);
        Checks.due("round", group.about(6), 2);
        for (int what : new int[] {-1, 10, Integer.MIN_VALUE, Integer.MAX_VALUE}) {
            Checks.due("about " + what, group.about(what), Groups.BAD);
        }
    }
}
