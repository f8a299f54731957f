import java.util.ArrayList;
import java.util.List;

/** What the edge tests share: groups to test on, and what a call must do, or leave, behind its answer. */
final class Edges {
    // The secrets that the groups here commit to: by them a commitment is recognised.
    private static final int[] SECRETS = {0, 1, 5, 6, 7, 8, 9, 31, 32, -77};
    private static final int MOST_STATES = 4;

    private Edges() {
    }

    interface Maker {
        RepairDuty make();
    }

    interface Call {
        long on(RepairDuty group);
    }

    /** The nearest numbers that are not from low to high, the farthest, and some that shifts or casts would wrap. */
    static int[] outside(int low, int high) {
        return new int[] {low - 1, high + 1, low - 32, high + 32, low - 256, high + 256, low - 65536, high + 65536,
            Integer.MIN_VALUE, Integer.MAX_VALUE};
    }

    static RepairDuty fresh() {
        return new RepairDuty();
    }

    static RepairDuty pair() {
        return Groups.at(20, 70);
    }

    static RepairDuty nine() {
        return Groups.at(0, 100, 200, 300, 400, 500, 600, 700, 800);
    }

    static RepairDuty ten() {
        return Groups.at(0, 100, 200, 300, 400, 500, 600, 700, 800, 900);
    }

    static RepairDuty tenDrawn() {
        return Groups.drawn(ten(), 31, 32);
    }

    /**
     * Something of everything: five members in the second round, the one with rank 0 dead, the others at each stage
     * of the lottery, losses, repairs, duties missed, a full history, and a text that ends too early.
     */
    static RepairDuty busy() {
        RepairDuty group = Groups.drawn(Groups.at(5, 300, 650, 655, 40), 31, 32);
        Groups.type(group, "3:01;60:23;198:01234;0:4;199:0");
        group.read();
        group.repair(60);
        Groups.drawn(group, 8, 9);
        group.live(group.duty(0), false);
        group.lose(group.duty(0), 60);
        group.lose(group.duty(2), 77);
        group.repair(77);
        group.commit(group.duty(3), Groups.mix(5));
        group.reveal(group.duty(3), 1);
        Groups.commitAndReveal(group, group.duty(1), 6);
        group.commit(group.duty(2), Groups.mix(7));
        Groups.type(group, "12:");
        return group;
    }

    /** The call is refused with this answer, and nothing has changed behind it. */
    static void refused(String what, Maker maker, Call call, long due) {
        Checks.due(what, call.on(maker.make()), due);
        Checks.holds(what + " leaves all as it was", sight(after(maker, call)).equals(sight(maker)));
    }

    /** The call is refused in each state of a group that it can meet: new, of two members, of ten, and busy. */
    static void refusedEverywhere(String what, Call call, long due) {
        refused(what + ", new", Edges::fresh, call, due);
        refused(what + ", two members", Edges::pair, call, due);
        refused(what + ", ten members", Edges::tenDrawn, call, due);
        refused(what + ", busy", Edges::busy, call, due);
    }

    /** The call tells something, and nothing has changed behind it. */
    static void told(String what, Maker maker, Call call, long due) {
        refused(what, maker, call, due);
    }

    /** The call is one act: the state before it has come to the history, and an undo brings it back. */
    static void act(String what, Maker maker, Call call, long due) {
        Checks.due(what, call.on(maker.make()), due);
        List<String> before = states(maker);
        List<String> then = states(after(maker, call));
        int kept = Math.min(before.size(), MOST_STATES);
        Checks.due(what + " is one act: states then", then.size(), kept + 1);
        Checks.holds(what + " is one act: the states before it",
            then.subList(1, then.size()).equals(before.subList(0, kept)));
    }

    /** The call is one act, and leaves all as it was. */
    static void idleAct(String what, Maker maker, Call call, long due) {
        act(what, maker, call, due);
        Checks.holds(what + " leaves all as it was", states(after(maker, call)).get(0).equals(states(maker).get(0)));
    }

    static Maker after(Maker maker, Call... calls) {
        return () -> {
            RepairDuty group = maker.make();
            for (Call call : calls) {
                call.on(group);
            }
            return group;
        };
    }

    /** All that can be seen of a group and its history and buffer. */
    static String sight(Maker maker) {
        RepairDuty text = maker.make();
        String read = text.read() + " and with one more sign " + text.type('0') + " " + text.read();
        return states(maker) + " of " + maker.make().clear() + " signs reads " + read + ": " + text.fingerprint();
    }

    /** What can be seen of the present state, and of each state of the history, the latest one first. */
    static List<String> states(Maker maker) {
        List<String> states = new ArrayList<>();
        for (int back = 0; back <= 2 * MOST_STATES; back++) {
            RepairDuty group = maker.make();
            RepairDuty other = maker.make();
            int left = 0;
            for (int i = 0; i < back; i++) {
                left = group.undo();
                other.undo();
            }
            if (left == Groups.NONE) {
                return states;
            }
            states.add(group.fingerprint() + " " + toldIn(other) + nextDraw(group));
        }
        return states;
    }

    /** What the members have told, as the reveals of all secrets tell it; the group is another one then. */
    private static String toldIn(RepairDuty group) {
        StringBuilder told = new StringBuilder();
        for (int member = 0; member < group.about(5); member++) {
            group.live(member, true);
            for (int secret : SECRETS) {
                told.append(group.reveal(member, secret) == 1 ? secret + " of " + member + ", " : "");
            }
        }
        return told.toString();
    }

    /** What the next draw would come to if one reveal were enough; the group is another one then. */
    private static String nextDraw(RepairDuty group) {
        group.set(2, 1);
        return group.draw() + " with " + group.seed() + ": " + group.fingerprint();
    }
}
