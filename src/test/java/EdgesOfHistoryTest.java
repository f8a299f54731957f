import java.math.BigInteger;
import java.util.ArrayDeque;

/** Promises 27 and 28, the history and the errors, sentence by sentence. */
public final class EdgesOfHistoryTest {
    public static void main(String[] args) {
        upToFourStates();
        oldestIsDropped();
        dropsBetweenUndos();
        everyAct();
        actsThatChangeNothing();
        callsThatAreNoActs();
        errorsAreNoActs();
        allButTheBuffer();
        restoresAll();
        undoOfNothing();
        undoTellsHowManyAreLeft();
        constants();
        errorsInOrder();
        allCallsOfAnObject();
        fingerprintOfNone();
        fingerprintOfEachNumber();
        fingerprintOfMembers();
        fingerprintOfLostBlocks();
        fingerprintOfRepairs();
        fingerprintOverflows();
        fingerprintChangesNothing();
        Checks.end();
    }

    /** A group after this many acts: act i has set the wait to i. */
    private static RepairDuty waits(int acts) {
        RepairDuty group = new RepairDuty();
        for (int i = 1; i <= acts; i++) {
            group.set(0, i);
        }
        return group;
    }

    private static void upToFourStates() {
        Checks.sentence("HISTORY", "A history of at most 4 states is kept");
        for (int acts = 0; acts <= 12; acts++) {
            RepairDuty group = waits(acts);
            int kept = Math.min(acts, 4);
            for (int left = kept - 1; left >= 0; left--) {
                Checks.due(acts + " acts, undo", group.undo(), left);
                int back = acts - kept + left;
                Checks.due(acts + " acts, the wait then", group.about(0), back == 0 ? 100 : back);
            }
            Checks.due(acts + " acts, no more", group.undo(), Groups.NONE);
            Checks.due(acts + " acts, the wait stays", group.about(0), acts <= 4 ? 100 : acts - 4);
        }
    }

    private static void oldestIsDropped() {
        Checks.sentence("HISTORY", "if there are 4 already, the oldest one is dropped");
        RepairDuty group = waits(4);
        for (int i = 0; i < 4; i++) {
            group.undo();
        }
        Checks.due("the fourth last is the state before all", group.about(0), 100);
        RepairDuty five = waits(5);
        for (int i = 0; i < 4; i++) {
            five.undo();
        }
        Checks.due("with five it is dropped", five.about(0), 1);
        RepairDuty many = waits(400);
        for (int left = 3; left >= 0; left--) {
            Checks.due("after many", many.undo(), left);
            Checks.due("the wait", many.about(0), 396 + left);
        }
    }

    private static void dropsBetweenUndos() {
        Checks.sentence("HISTORY", "undo() removes the latest one and restores it.");
        for (int acts = 0; acts <= 9; acts++) {
            for (int undos = 0; undos <= 5; undos++) {
                for (int more = 0; more <= 6; more++) {
                    compareWaits(acts, undos, more);
                }
            }
        }
    }

    private static void compareWaits(int acts, int undos, int more) {
        ArrayDeque<Integer> history = new ArrayDeque<>();
        RepairDuty group = new RepairDuty();
        int wait = 100;
        for (int i = 1; i <= acts + undos + more; i++) {
            if (i > acts && i <= acts + undos) {
                wait = history.isEmpty() ? wait : history.removeLast();
                group.undo();
            } else {
                history.addLast(wait);
                wait = i;
                group.set(0, i);
                if (history.size() > 4) {
                    history.removeFirst();
                }
            }
            Checks.due("the wait", group.about(0), wait);
        }
        while (!history.isEmpty()) {
            wait = history.removeLast();
            Checks.due(acts + " acts, " + undos + " undos, " + more + " acts", group.undo(), history.size());
            Checks.due("the wait then", group.about(0), wait);
        }
        Checks.due("no more", group.undo(), Groups.NONE);
    }

    private static void everyAct() {
        Checks.sentence("HISTORY", "Each call described as an act that returns no error adds the state before it");
        int dead = Edges.busy().duty(0);
        int right = Edges.busy().duty(1);
        int committed = Edges.busy().duty(2);
        int nothing = Edges.busy().duty(4);
        Edges.act("join", Edges::busy, group -> group.join(9, 1000), 5);
        Edges.act("change weight", Edges::busy, group -> group.change(0, 0, 9), 1);
        Edges.act("change position", Edges::busy, group -> group.change(4, 1, 0), 40);
        Edges.act("die", Edges::busy, group -> group.live(right, false), 1);
        Edges.act("live", Edges::busy, group -> group.live(dead, true), 0);
        Edges.act("set", Edges::busy, group -> group.set(2, 1), 2);
        Edges.act("commit", Edges::busy, group -> group.commit(nothing, Groups.mix(31)), 0);
        Edges.act("reveal", Edges::busy, group -> group.reveal(committed, 7), 1);
        Edges.act("draw", Edges.after(Edges::busy, group -> group.reveal(committed, 7)), group -> group.draw(), 3);
        Edges.act("lose", Edges::busy, group -> group.lose(0, 199), 1);
        Edges.act("read", Edges.after(Edges::busy, group -> group.type('4')), group -> group.read(), 1);
        Edges.act("repair", Edges::busy, group -> group.repair(199), Edges.busy().look(199, 0, 2));
        Edges.act("repairAll", Edges::busy, group -> group.repairAll(), 3);
    }

    private static void actsThatChangeNothing() {
        Checks.sentence("HISTORY", "also if it leaves all as it was");
        int dead = Edges.busy().duty(0);
        int right = Edges.busy().duty(1);
        int committed = Edges.busy().duty(2);
        int wrong = Edges.busy().duty(3);
        Edges.idleAct("change weight", Edges::busy, group -> group.change(4, 0, 5), 5);
        Edges.idleAct("change position", Edges::busy, group -> group.change(4, 1, 40), 40);
        Edges.idleAct("die", Edges::busy, group -> group.live(dead, false), 0);
        Edges.idleAct("live", Edges::busy, group -> group.live(right, true), 1);
        Edges.idleAct("set", Edges::busy, group -> group.set(0, 100), 100);
        Edges.idleAct("commit", Edges::busy, group -> group.commit(committed, Groups.mix(7)), 1);
        Edges.idleAct("reveal rightly", Edges::busy, group -> group.reveal(right, 6), 1);
        Edges.idleAct("reveal wrongly", Edges::busy, group -> group.reveal(wrong, 1), 0);
        Edges.idleAct("lose", Edges::busy, group -> group.lose(4, 0), 1);
        Edges.idleAct("read", Edges.after(Edges::busy, group -> group.lose(4, 12), group -> group.type('4')),
            group -> group.read(), 0);
        Edges.idleAct("repairAll", Edges.after(Edges::busy, group -> group.repairAll()), group -> group.repairAll(), 0);
        RepairDuty group = waits(4);
        for (int i = 0; i < 4; i++) {
            group.set(0, 4);
        }
        group.undo();
        Checks.due("four such ones fill the history", group.undo(), 2);
        Checks.due("and the state stays", group.about(0), 4);
        group.undo();
        group.undo();
        Checks.due("no other is left", group.about(0), 4);
    }

    private static final Edges.Call[] NO_ACTS = {
        group -> group.member(0, 3), group -> group.about(7), group -> group.mix(5), RepairDuty::seed,
        group -> group.duty(0), group -> group.ifLeft(0, 0), group -> group.lost(4, 0), group -> group.look(0, 4, 2),
        group -> group.past(0, 0), group -> group.why(0), group -> (long) (100 * group.silence()),
        RepairDuty::bestWait, RepairDuty::fingerprint};

    private static void callsThatAreNoActs() {
        Checks.sentence("HISTORY", "Each call described as an act");
        for (Edges.Call call : NO_ACTS) {
            Edges.told("a call", Edges::busy, call, call.on(Edges.busy()));
            Edges.told("a call", Edges::tenDrawn, call, call.on(Edges.tenDrawn()));
            Edges.told("a call", Edges::fresh, call, call.on(Edges.fresh()));
        }
        for (Edges.Maker maker : new Edges.Maker[] {Edges::fresh, Edges::pair, Edges::busy}) {
            Checks.holds("type is none", Edges.states(Edges.after(maker, group -> group.type('0')))
                .equals(Edges.states(maker)));
            Checks.holds("clear is none", Edges.states(Edges.after(maker, group -> group.clear()))
                .equals(Edges.states(maker)));
            Checks.holds("undo is none", Edges.states(Edges.after(maker, group -> group.undo())).size()
                == Math.max(1, Edges.states(maker).size() - 1));
        }
    }

    private static void errorsAreNoActs() {
        Checks.sentence("ERRORS", "A call that returns an error changes nothing.");
        int dead = Edges.busy().duty(0);
        int nothing = Edges.busy().duty(4);
        Edges.refused("join", Edges::busy, group -> group.join(0, 0), Groups.BAD);
        Edges.refused("change", Edges::busy, group -> group.change(0, 2, 0), Groups.BAD);
        Edges.refused("live", Edges::busy, group -> group.live(5, false), Groups.BAD);
        Edges.refused("member", Edges::busy, group -> group.member(5, 0), Groups.BAD);
        Edges.refused("set", Edges::busy, group -> group.set(2, 0), Groups.BAD);
        Edges.refused("about", Edges::busy, group -> group.about(10), Groups.BAD);
        Edges.refused("commit", Edges::busy, group -> group.commit(dead, 1), Groups.STATE);
        Edges.refused("reveal, dead", Edges::busy, group -> group.reveal(dead, 1), Groups.STATE);
        Edges.refused("reveal, not committed", Edges::busy, group -> group.reveal(nothing, 1), Groups.STATE);
        Edges.refused("draw", Edges::busy, group -> group.draw(), Groups.STATE);
        Edges.refused("duty", Edges::busy, group -> group.duty(-1), Groups.BAD);
        Edges.refused("ifLeft", Edges::busy, group -> group.ifLeft(1024, 0), Groups.BAD);
        Edges.refused("ifLeft", Edges::busy, group -> group.ifLeft(0, 0), Groups.STATE);
        Edges.refused("lose", Edges::busy, group -> group.lose(0, 200), Groups.BAD);
        Edges.refused("type", Edges::busy, group -> group.type(31), Groups.BAD);
        Edges.refused("read", Edges::busy, group -> group.read(), -103);
        Edges.refused("lost", Edges::busy, group -> group.lost(0, 200), Groups.BAD);
        Edges.refused("repair", Edges::busy, group -> group.repair(198), Groups.STATE);
        Edges.refused("repair", Edges::busy, group -> group.repair(200), Groups.BAD);
        Edges.refused("look", Edges::busy, group -> group.look(198, 0, 0), Groups.STATE);
        Edges.refused("past", Edges::busy, group -> group.past(9, 0), Groups.NONE);
        Edges.refused("why", Edges::busy, group -> group.why(200), Groups.BAD);
        Edges.refused("undo", Edges::fresh, group -> group.undo(), Groups.NONE);
        RepairDuty group = waits(7);
        for (int i = 0; i < 20; i++) {
            group.set(0, 0);
            group.draw();
            group.read();
            group.repair(5);
        }
        Checks.due("many errors drop no state", group.undo(), 3);
        Checks.due("the wait then", group.about(0), 6);
    }

    private static void allButTheBuffer() {
        Checks.sentence("HISTORY", "(everything but the buffer)");
        RepairDuty group = Edges.pair();
        Groups.type(group, "12");
        group.set(0, 7);
        Groups.type(group, ":0");
        Checks.due("undo", group.undo(), 2);
        Checks.due("the text stays, and is read", group.read(), 1);
        Checks.due("undo of the read", group.undo(), 2);
        Checks.due("the loss is undone", group.lost(0, 12), 0);
        Checks.due("the text does not come back", group.clear(), 0);
        Groups.type(group, "0123456789".repeat(6));
        group.set(0, 8);
        group.clear();
        group.undo();
        Checks.due("what was cleared does not come back", group.clear(), 0);
        for (int length = 0; length <= 60; length += 20) {
            RepairDuty busy = Edges.busy();
            busy.clear();
            Groups.type(busy, "x".repeat(length));
            while (busy.undo() != Groups.NONE) {
                Checks.due("still room or none", busy.type(31), Groups.BAD);
            }
            Checks.due("after all undos", busy.clear(), length);
        }
    }

    private static void restoresAll() {
        Checks.sentence("Promise 27", "Undoes the latest act.");
        Edges.Maker silent = Edges.after(Edges::tenDrawn, group -> group.change(7, 1, 510),
            group -> group.lose(5, 0), group -> group.lose(7, 0));
        Edges.Maker[] makers = {Edges::fresh, Edges::pair, Edges::nine, Edges::tenDrawn, Edges::busy, silent};
        for (Edges.Maker maker : makers) {
            String before = Edges.states(maker).get(0);
            for (Edges.Call act : acts()) {
                Edges.Maker undone = Edges.after(maker, group -> {
                    long answer = act.on(group);
                    return answer >= 0 ? group.undo() : answer;
                });
                Checks.holds("as before the act", Edges.states(undone).get(0).equals(before));
            }
        }
        Checks.due("one was silent", Edges.after(silent, group -> group.repair(0)).make().about(9), 1);
    }

    private static Edges.Call[] acts() {
        return new Edges.Call[] {group -> group.join(9, 9), group -> group.change(1, 0, 9),
            group -> group.change(1, 1, 999), group -> group.live(1, false), group -> group.set(0, 1),
            group -> group.set(4, 99), group -> group.commit(0, Groups.mix(32)),
            group -> group.commit(4, Groups.mix(0)), group -> group.reveal(1, 7), group -> group.reveal(1, 0),
            group -> group.lose(1, 150), group -> group.repair(0), group -> group.repairAll()};
    }

    private static void undoOfNothing() {
        Checks.sentence("Promise 27", "NONE if it has none.");
        Edges.refused("new", Edges::fresh, group -> group.undo(), Groups.NONE);
        Edges.Maker spent = Edges.after(Edges::busy, RepairDuty::undo, RepairDuty::undo, RepairDuty::undo,
            RepairDuty::undo);
        Edges.refused("spent", spent, group -> group.undo(), Groups.NONE);
        Edges.refused("spent, again and again", Edges.after(spent, RepairDuty::undo, RepairDuty::undo),
            group -> group.undo(), Groups.NONE);
        Edges.refused("only refused acts", Edges.after(Edges::fresh, group -> group.join(0, 0), RepairDuty::draw),
            group -> group.undo(), Groups.NONE);
        Edges.act("an act then", spent, group -> group.set(0, 5), 100);
    }

    private static void undoTellsHowManyAreLeft() {
        Checks.sentence("Promise 27", "Returns how many states the history still has");
        Checks.due("one act", waits(1).undo(), 0);
        Checks.due("two acts", waits(2).undo(), 1);
        Checks.due("three acts", waits(3).undo(), 2);
        Checks.due("four acts", waits(4).undo(), 3);
        Checks.due("five acts", waits(5).undo(), 3);
        Checks.due("500 acts", waits(500).undo(), 3);
        RepairDuty group = waits(5);
        group.undo();
        group.set(0, 50);
        Checks.due("one undone, one more", group.undo(), 3);
        group.undo();
        group.set(0, 51);
        Checks.due("three then", group.undo(), 2);
    }

    private static void constants() {
        Checks.sentence("ERRORS", "The constants");
        Checks.due("BAD", RepairDuty.BAD, -1000001);
        Checks.due("STATE", RepairDuty.STATE, -1000002);
        Checks.due("FULL", RepairDuty.FULL, -1000003);
        Checks.due("NONE", RepairDuty.NONE, -1000009);
    }

    private static void errorsInOrder() {
        Checks.sentence("ERRORS", "If several errors apply to a call, the one listed first is returned.");
        RepairDuty ten = Edges.ten();
        Checks.due("join, BAD and FULL", ten.join(10, 0), Groups.BAD);
        Checks.due("join, BAD and FULL", ten.join(1, -1), Groups.BAD);
        Checks.due("commit, BAD and nobody lives", new RepairDuty().commit(0, 0), Groups.BAD);
        Checks.due("reveal, BAD and not committed", ten.reveal(10, 0), Groups.BAD);
        Checks.due("duty, BAD and none", ten.duty(-1), Groups.BAD);
        Checks.due("ifLeft, BAD and STATE", ten.ifLeft(-1, 0), Groups.BAD);
        Checks.due("ifLeft, BAD and STATE", ten.ifLeft(0, -1), Groups.BAD);
        Checks.due("ifLeft, STATE and NONE", ten.ifLeft(0, 10), Groups.STATE);
        Groups.type(ten, "x".repeat(60));
        Checks.due("type, BAD and FULL", ten.type(127), Groups.BAD);
        Checks.due("repair, BAD and STATE", ten.repair(200), Groups.BAD);
        Checks.due("look, BAD by the block and STATE", ten.look(200, 0, 0), Groups.BAD);
        Checks.due("look, BAD by the member and STATE", ten.look(0, 10, 0), Groups.BAD);
        Checks.due("look, BAD by what and STATE", ten.look(0, 0, 3), Groups.BAD);
        Checks.due("past, BAD by what and NONE", ten.past(0, 7), Groups.BAD);
        Checks.due("past, BAD by i", ten.past(-1, 0), Groups.BAD);
        Checks.due("why, BAD and no round", ten.why(-1), Groups.BAD);
    }

    private static void allCallsOfAnObject() {
        Checks.sentence("What it is", "An object is used for at most 512 calls after it has been made");
        RepairDuty acts = new RepairDuty();
        for (int call = 1; call <= 511; call++) {
            Checks.due("act " + call, acts.set(0, call), call == 1 ? 100 : call - 1);
        }
        Checks.due("call 512", acts.undo(), 3);
        RepairDuty rounds = new RepairDuty();
        rounds.join(1, 0);
        rounds.set(2, 1);
        for (int round = 1; round <= 170; round++) {
            rounds.commit(0, Groups.mix(round));
            rounds.reveal(0, round);
            Checks.due("round", rounds.draw(), round);
        }
        RepairDuty repairs = Groups.drawn(Groups.at(0, 0), 1, 2);
        int loser = repairs.duty(1);
        for (int call = 10; call <= 508; call += 2) {
            repairs.lose(loser, call % 200);
            repairs.repair(call % 200);
        }
        Checks.due("repairs", repairs.about(7), 250);
        Checks.due("the oldest one that is kept", repairs.past(19, 0), (508 - 38) % 200);
        Checks.due("credits", repairs.member(repairs.duty(0), 3), 1250);
    }

    private static long printOf(long... numbers) {
        long print = 197;
        for (long number : numbers) {
            print = 31 * print + number;
        }
        return print;
    }

    private static void fingerprintOfNone() {
        Checks.sentence("Promise 28", "It starts as 197");
        long due = printOf(100, 50, 2, 5, 3, 0, 0, 0, 0, 0, Groups.NO_SEED);
        Edges.told("new", Edges::fresh, RepairDuty::fingerprint, due);
        Edges.told("with a text", Edges.after(Edges::fresh, group -> group.type('5')), RepairDuty::fingerprint, due);
        Edges.told("with a history", Edges.after(Edges::fresh, group -> group.set(0, 100)),
            RepairDuty::fingerprint, due);
    }

    private static void fingerprintOfEachNumber() {
        Checks.sentence("Promise 28", "about() 0 to 9");
        int[][] values = {{1, 1000}, {0, 500}, {1, 10}, {0, 100}, {0, 100}};
        for (int setting = 0; setting < 5; setting++) {
            for (int value : values[setting]) {
                RepairDuty group = new RepairDuty();
                long[] numbers = {100, 50, 2, 5, 3, 0, 0, 0, 0, 0, Groups.NO_SEED};
                numbers[setting] = value;
                group.set(setting, value);
                Checks.due("setting " + setting, group.fingerprint(), printOf(numbers));
            }
        }
    }

    private static void fingerprintOfMembers() {
        Checks.sentence("Promise 28", "for each member member() 0 to 8; seed(); duty() of all ranks of the list");
        RepairDuty group = new RepairDuty();
        group.join(9, 1000);
        Checks.due("one member", group.fingerprint(), printOf(100, 50, 2, 5, 3, 1, 0, 0, 0, 0,
            9, 1000, 1, 0, Groups.NONE, 0, 0, 0, 0, Groups.NO_SEED));
        group.set(2, 1);
        Groups.commitAndReveal(group, 0, 5);
        group.join(1, 0);
        group.commit(1, 5);
        group.draw();
        group.join(2, 2);
        group.live(1, false);
        long due = printOf(100, 50, 1, 5, 3, 3, 1, 0, 0, 0,
            9, 1000, 1, 0, group.member(0, 4), 0, 0, 0, 0,
            1, 0, 0, -3, group.member(1, 4), 0, 0, 0, 0,
            2, 2, 1, 0, Groups.NONE, 0, 0, 0, 0,
            Groups.mix(1 ^ 5), group.duty(0), group.duty(1));
        Checks.due("two on the list, one later", group.fingerprint(), due);
    }

    private static void fingerprintOfLostBlocks() {
        Checks.sentence("Promise 28", "for each block that a member has lost its number and the set of the members "
            + "that have lost it");
        RepairDuty group = new RepairDuty();
        group.join(1, 0);
        group.join(2, 5);
        group.lose(1, 199);
        group.lose(0, 0);
        group.lose(1, 0);
        group.lose(0, 100);
        group.live(0, false);
        long due = printOf(100, 50, 2, 5, 3, 2, 0, 0, 0, 0, 1, 0, 0, 0, Groups.NONE, 2, 0, 0, 0,
            2, 5, 1, 0, Groups.NONE, 2, 0, 0, 0, Groups.NO_SEED, 0, 3, 100, 1, 199, 2);
        Checks.due("three blocks", group.fingerprint(), due);
    }

    // The list of two members is short, and what was lost is got: the rest of the numbers are those of the repairs.
    private static void fingerprintOfRepairs() {
        Checks.sentence("Promise 28", "past() 0 to 6 of all repairs that are kept, from the latest one on");
        RepairDuty group = Groups.drawn(Groups.at(0, 10), 5, 6);
        int repairer = group.duty(0);
        int loser = group.duty(1);
        for (int made = 0; made <= 42; made++) {
            long print = printOf(100, 50, 2, 5, 3, 2, 1, made, made, 0);
            for (int member = 0; member < 2; member++) {
                int repairs = member == repairer ? made : 0;
                for (long number : new long[] {member + 1, 10 * member, 1, 5 * repairs, group.member(member, 4), 0,
                    repairs, 0, 0}) {
                    print = 31 * print + number;
                }
            }
            print = 31 * (31 * (31 * print + group.seed()) + repairer) + loser;
            for (int i = made - 1; i >= 0 && i >= made - 20; i--) {
                int time = Groups.waitOf(group.seed(), i, loser, 100) + 20;
                for (long number : new long[] {i, 1, repairer, 1 << loser, 0, 0, time}) {
                    print = 31 * print + number;
                }
            }
            Checks.due(made + " repairs", group.fingerprint(), print);
            group.lose(loser, made);
            group.repair(made);
        }
    }

    private static void fingerprintOverflows() {
        Checks.sentence("Promise 28", "in long arithmetic with overflow");
        RepairDuty group = new RepairDuty();
        group.join(9, 1000);
        BigInteger print = BigInteger.valueOf(197);
        for (long number : new long[] {100, 50, 2, 5, 3, 1, 0, 0, 0, 0, 9, 1000, 1, 0, Groups.NONE, 0, 0, 0, 0,
            Groups.NO_SEED}) {
            print = print.multiply(BigInteger.valueOf(31)).add(BigInteger.valueOf(number));
        }
        Checks.holds("it is greater than a long", print.bitLength() > 64);
        Checks.due("its lower 64 bits", group.fingerprint(), print.longValue());
    }

    private static void fingerprintChangesNothing() {
        Checks.sentence("Promise 28", "Returns the fingerprint.");
        for (Edges.Maker maker : new Edges.Maker[] {Edges::fresh, Edges::pair, Edges::tenDrawn, Edges::busy}) {
            Edges.told("a fingerprint", maker, RepairDuty::fingerprint, maker.make().fingerprint());
        }
    }
}
