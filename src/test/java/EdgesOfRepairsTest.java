import java.util.Arrays;

/** Promises 20 to 26 and the repairs, sentence by sentence: the first and the last that is allowed, or is kept. */
public final class EdgesOfRepairsTest {
    /** The list of Edges.tenDrawn(), and the waits of its members for the blocks 0, 7 and 199. */
    private static final int[] LIST = {2, 8, 6, 9, 7, 1, 5, 3, 4, 0};
    private static final int[] BLOCKS = {0, 7, 199};
    private static final int[][] OF_100 = {{77, 64, 44, 42, 42, 3, 59, 19, 28, 77},
        {30, 12, 92, 19, 12, 98, 74, 17, 41, 20}, {94, 53, 42, 44, 15, 86, 66, 47, 46, 73}};
    private static final int[][] OF_1000 = {{577, 264, 544, 442, 142, 3, 559, 419, 728, 377},
        {830, 712, 392, 419, 12, 598, 374, 717, 541, 820}, {494, 553, 442, 944, 15, 386, 766, 447, 46, 473}};

    public static void main(String[] args) {
        onlyTheLivingAreLosers();
        waits();
        firstOfEqualWaits();
        silentIfGreater();
        silenceAtDistanceNull();
        repairerOfEachRank();
        passedOver();
        everyMemberPassedOver();
        noRepairerWithoutRank();
        heardAtTheSmallest();
        laterByStepAndRank();
        theFarthestPositions();
        comesToEachLoser();
        theLastLoserItCameTo();
        rewardsAndFines();
        blocksToRepair();
        repairNotPossible();
        repairIsAnAct();
        latestTwenty();
        allBlocks();
        noBlocks();
        someBlocks();
        blocksToLookAt();
        membersToLookAt();
        whatToLookAt();
        lookNotPossible();
        allParts();
        noLoserToLookAt();
        lookIsTheRepair();
        whichRepair();
        numbersOfRepairs();
        whatOfARepair();
        repairNotKept();
        whyInOrder();
        blocksToAskWhy();
        silenceOfNone();
        silenceInFloats();
        bestWaitOfNone();
        bestWaitOfAll();
        Checks.end();
    }

    private static RepairDuty losing(RepairDuty group, int block, int... members) {
        for (int member : members) {
            group.lose(member, block);
        }
        return group;
    }

    private static RepairDuty killing(RepairDuty group, int... members) {
        for (int member : members) {
            group.live(member, false);
        }
        return group;
    }

    /** The group of ten: these have lost the block. */
    private static Edges.Maker lost(int block, int... members) {
        return () -> losing(Edges.tenDrawn(), block, members);
    }

    private static Edges.Maker dead(Edges.Maker maker, int... members) {
        return () -> killing(maker.make(), members);
    }

    /** The members from one rank to another, by the list of the group of ten. */
    private static int[] ranks(int from, int to) {
        return Arrays.copyOfRange(LIST, from, to + 1);
    }

    private static void duePast(String what, RepairDuty group, int... numbers) {
        for (int i = 0; i < numbers.length; i++) {
            Checks.due(what + ", past " + i, group.past(0, i), numbers[i]);
        }
    }

    private static void onlyTheLivingAreLosers() {
        Checks.sentence("BLOCKS", "The losers are the living members that have lost the block.");
        RepairDuty group = dead(lost(7, 1, 4, 9), 1).make();
        Checks.due("a dead one is none", group.look(7, 1, 0), 0);
        Checks.due("a living one asks first", group.look(7, 4, 0), 1);
        group.repair(7);
        Checks.due("the dead one did not get it", group.lost(1, 7), 1);
        Checks.due("the living ones did", group.lost(4, 7) + group.lost(9, 7), 0);
        Checks.due("nor was it in the repair", (group.past(0, 3) | group.past(0, 4)) & 2, 0);
        Checks.due("no loser is left", group.why(7), 2);
        group.live(1, true);
        Checks.due("living again it is one", group.look(7, 1, 0), 1);
        Checks.due("repair", group.repair(7), 12 + 200);
    }

    private static void waits() {
        Checks.sentence("BLOCKS", "with the state MIX of (seed XOR (1000 * block + the number of the loser)), a lot of "
            + "the setting wait");
        for (int i = 0; i < BLOCKS.length; i++) {
            int block = BLOCKS[i];
            RepairDuty group = losing(Edges.tenDrawn(), block, 0, 1, 3, 4, 5, 6, 7, 8, 9);
            for (int member = 0; member < 10; member++) {
                boolean loser = member != 2;
                Checks.due("of 100", group.look(block, member, 1), loser ? OF_100[i][member] : Groups.NONE);
                group.set(0, 1000);
                Checks.due("of 1000", group.look(block, member, 1), loser ? OF_1000[i][member] : Groups.NONE);
                group.set(0, 10);
                Checks.due("of 10", group.look(block, member, 1), loser ? OF_100[i][member] % 10 : Groups.NONE);
                group.set(0, 1);
                Checks.due("of 1", group.look(block, member, 1), loser ? 0 : Groups.NONE);
                group.set(0, 100);
            }
        }
    }

    private static void firstOfEqualWaits() {
        Checks.sentence("BLOCKS", "The loser with the smallest wait, of several the smallest number, asks first");
        for (int[] losers : new int[][] {{1, 4}, {4, 1}, {0, 1, 3, 4, 9}, {9, 4, 3, 1, 0}}) {
            RepairDuty group = lost(7, losers).make();
            Checks.due("1 asks first", group.look(7, 1, 0), 1);
            Checks.due("4 asks, too", group.look(7, 4, 0), 2);
            group.change(4, 1, 100);
            Checks.due("also at the same place", group.look(7, 4, 0), 2);
        }
        Checks.due("4 without 1", lost(7, 0, 4, 9).make().look(7, 4, 0), 1);
        Checks.due("the smallest wait is 0", lost(76, 0, 1, 4, 9).make().look(76, 1, 0), 1);
        RepairDuty all = lost(7, 9, 8, 7, 6, 5, 4, 3, 1, 0).make();
        all.set(0, 1);
        for (int member = 0; member < 10; member++) {
            int due = member == 0 ? 1 : member == 2 ? 4 : 2;
            Checks.due("all waits are 0, " + member, all.look(7, member, 0), due);
        }
    }

    // Block 0: member 5 asks first at 3, and 7 has the wait 19.
    private static void silentIfGreater() {
        Checks.sentence("BLOCKS", "Each other loser is silent if its wait is greater than the wait of the first one "
            + "plus their distance; otherwise it asks, too, at its wait.");
        int[][] places = {{500, 516, 2}, {500, 515, 3}, {500, 517, 2}, {500, 484, 2}, {500, 485, 3}, {500, 483, 2},
            {0, 16, 2}, {0, 15, 3}, {1000, 984, 2}, {1000, 985, 3}, {0, 0, 3}, {0, 1000, 2}, {1000, 0, 2}};
        for (int[] place : places) {
            RepairDuty group = lost(0, 5, 7).make();
            group.change(5, 1, place[0]);
            group.change(7, 1, place[1]);
            String where = "at " + place[0] + " and " + place[1];
            Checks.due(where + " first", group.look(0, 5, 0), 1);
            Checks.due(where + " other", group.look(0, 7, 0), place[2]);
            group.repair(0);
            Checks.due(where + " asked", group.past(0, 3), place[2] == 2 ? 32 + 128 : 32);
            Checks.due(where + " silent", group.past(0, 4), place[2] == 2 ? 0 : 128);
            Checks.due(where + " questions", group.about(8), place[2] == 2 ? 2 : 1);
            Checks.due(where + " silent ones", group.about(9), place[2] == 2 ? 0 : 1);
        }
    }

    // Block 199: member 8 has the wait 46, 7 has 47. Block 0: 3 and 4 have 42.
    private static void silenceAtDistanceNull() {
        Checks.sentence("BLOCKS", "is silent if its wait is greater than the wait of the first one plus their "
            + "distance");
        RepairDuty group = lost(199, 7, 8).make();
        group.change(7, 1, 800);
        Checks.due("one greater at the same place", group.look(199, 7, 0), 3);
        group.change(7, 1, 801);
        Checks.due("one greater one farther", group.look(199, 7, 0), 2);
        group.change(7, 1, 799);
        Checks.due("to the other side", group.look(199, 7, 0), 2);
        RepairDuty equal = lost(0, 3, 4).make();
        equal.change(4, 1, 300);
        Checks.due("equal at the same place", equal.look(0, 4, 0), 2);
    }

    private static void repairerOfEachRank() {
        Checks.sentence("BLOCKS", "The repairer is the member with the smallest rank that is living and has the "
            + "block.");
        for (int rank = 0; rank <= 8; rank++) {
            RepairDuty group = killing(lost(7, 0).make(), ranks(0, rank - 1));
            Checks.due("with dead ones before it", group.look(7, LIST[rank], 0), 4);
            group.repair(7);
            Checks.due("it has repaired", group.past(0, 2), LIST[rank]);
            int[] losers = rank == 0 ? new int[] {0} : ranks(0, rank - 1);
            RepairDuty lost = lost(7, losers).make();
            Checks.due("with losers before it", lost.look(7, LIST[rank], 0), 4);
            lost.repair(7);
            Checks.due("it has repaired", lost.past(0, 2), LIST[rank]);
        }
        RepairDuty last = lost(7, ranks(0, 8)).make();
        Checks.due("the last rank", last.look(7, 0, 0), 4);
        Checks.due("repair by it", last.repair(7) >= 9 * 50 ? 0 : 1, last.past(0, 2));
        Checks.due("none at all", lost(7, ranks(0, 9)).make().why(7), 3);
        Checks.due("none that lives", dead(lost(7, 0), ranks(0, 8)).make().why(7), 3);
    }

    private static void passedOver() {
        Checks.sentence("BLOCKS", "Members with smaller ranks are passed over; those of them that are not living have "
            + "missed a duty.");
        RepairDuty group = dead(lost(7, 8, 6, 3), 2, 6, 7, 4).make();
        Checks.due("a dead one with it", group.look(7, 2, 0), 5);
        Checks.due("a living one without it", group.look(7, 8, 0) > 0 && group.look(7, 8, 0) < 4 ? 1 : 0, 1);
        Checks.due("a dead one without it", group.look(7, 6, 0), 5);
        Checks.due("the repairer", group.look(7, 9, 0), 4);
        Checks.due("a dead one next to it", group.look(7, 7, 0), 0);
        Checks.due("a dead one far behind it", group.look(7, 4, 0), 0);
        group.repair(7);
        Checks.due("missed duties", group.past(0, 5), 1 << 2 | 1 << 6);
        for (int member = 0; member < 10; member++) {
            boolean missed = member == 2 || member == 6;
            Checks.due("missed by " + member, group.member(member, 7), missed ? 1 : 0);
            Checks.due("credits of " + member, group.member(member, 3), missed ? -3 : member == 9 ? 5 : 0);
        }
        RepairDuty none = lost(7, 0).make();
        none.repair(7);
        Checks.due("rank 0 repairs: nobody is passed over", none.past(0, 5), 0);
        RepairDuty all = dead(lost(7, 4), ranks(0, 7)).make();
        all.repair(7);
        Checks.due("rank 9 repairs", all.past(0, 2), 0);
        Checks.due("all eight dead ones missed it", all.past(0, 5), 1023 & ~(1 << 4) & ~1);
    }

    private static void everyMemberPassedOver() {
        Checks.sentence("BLOCKS", "those of them that are not living have missed a duty.");
        int seen = 0;
        for (int secret = 0; secret < 150; secret++) {
            RepairDuty group = Groups.drawn(Edges.ten(), secret, secret);
            int dead = group.duty(0);
            int repairer = group.duty(1);
            killing(losing(group, 7, group.duty(2)), dead);
            Checks.due("it would miss a duty", group.look(7, dead, 0), 5);
            group.repair(7);
            Checks.due("missed", group.past(0, 5), 1 << dead);
            Checks.due("its duties missed", group.member(dead, 7), 1);
            Checks.due("its credits", group.member(dead, 3), -3);
            Checks.due("the repairer's credits", group.member(repairer, 3), 5);
            group.live(dead, true);
            losing(group, 7, group.duty(2)).repair(7);
            Checks.due("living again it misses none", group.past(0, 5), 0);
            Checks.due("but repairs", group.past(0, 2), dead);
            seen |= 1 << dead;
        }
        Checks.due("each member was the dead one", seen, 1023);
    }

    private static void noRepairerWithoutRank() {
        Checks.sentence("BLOCKS", "The repairer is the member with the smallest rank");
        RepairDuty group = losing(Groups.drawn(Edges.nine(), 3, 4), 7, 0, 1, 2, 3, 4, 5, 6, 7, 8);
        group.join(9, 500);
        Checks.due("one without a rank repairs nothing", group.why(7), 3);
        Checks.due("repair", group.repair(7), Groups.STATE);
        Groups.drawn(group, 3, 4);
        Checks.due("with a rank it does", group.look(7, 9, 0), 4);
        RepairDuty loser = Groups.drawn(Edges.nine(), 3, 4);
        loser.join(9, 500);
        loser.lose(9, 7);
        Checks.due("but it can lose", loser.look(7, 9, 0), 1);
        Checks.due("and get", loser.repair(7), loser.past(0, 6));
        Checks.due("it has it", loser.lost(9, 7), 0);
    }

    // Block 7: members 1 and 4 have the wait 12, 9 has 20, 0 has 30; the repairer is 2, at 200.
    private static void heardAtTheSmallest() {
        Checks.sentence("BLOCKS", "The repairer hears of it at the smallest one, over all that ask, of the time of the "
            + "question plus the distance.");
        int[][] cases = {{1000, 210, 22}, {1000, 200, 12}, {200, 1000, 12}, {230, 220, 32}, {170, 220, 32}};
        for (int[] row : cases) {
            RepairDuty group = lost(7, 1, 4).make();
            group.change(1, 1, row[0]);
            group.change(4, 1, row[1]);
            Checks.due("at 1", group.look(7, 1, 2), row[2] + Math.abs(row[0] - 200));
            Checks.due("at 4", group.look(7, 4, 2), row[2] + Math.abs(row[1] - 200));
        }
        int[][] farAndNear = {{7, 9, 0, 30}, {199, 4, 9, 73}, {7, 3, 0, 30}, {0, 5, 1, 64}};
        for (int[] row : farAndNear) {
            RepairDuty group = lost(row[0], row[1], row[2]).make();
            group.change(row[1], 1, 1000);
            group.change(row[2], 1, 200);
            Checks.due("far", group.look(row[0], row[1], 0), 1);
            Checks.due("near", group.look(row[0], row[2], 0), 2);
            Checks.due("heard from the near one", group.look(row[0], row[2], 2), row[3]);
            Checks.due("the repair", group.repair(row[0]), row[3] + 800);
        }
        RepairDuty later = lost(7, 1, 9).make();
        later.change(1, 1, 290);
        later.change(9, 1, 282);
        Checks.due("the later one is heard at the same time", later.look(7, 9, 0), 2);
        Checks.due("at 1", later.look(7, 1, 2), 12 + 90 + 90);
        later.change(9, 1, 281);
        Checks.due("it is heard one sooner", later.look(7, 1, 2), 20 + 81 + 90);
        later.change(9, 1, 283);
        Checks.due("it would be heard later, and is silent", later.look(7, 9, 0), 3);
        Checks.due("at 1", later.look(7, 1, 2), 12 + 90 + 90);
    }

    private static void laterByStepAndRank() {
        Checks.sentence("BLOCKS", "It sends then, but later by the step times its rank.");
        for (int step : new int[] {0, 1, 50, 500}) {
            for (int rank = 0; rank <= 8; rank++) {
                RepairDuty group = killing(lost(7, 0).make(), ranks(0, rank - 1));
                group.set(1, step);
                int due = 30 + 2 * 100 * LIST[rank] + step * rank;
                Checks.due("step " + step + ", rank " + rank, group.look(7, 0, 2), due);
                Checks.due("the repair", group.repair(7), due);
            }
            RepairDuty last = dead(lost(7, 4), ranks(0, 7)).make();
            last.set(1, step);
            Checks.due("step " + step + ", rank 9", last.repair(7), 12 + 800 + step * 9);
        }
    }

    private static void theFarthestPositions() {
        Checks.sentence("MEMBERS", "The distance of two members is the absolute value of the difference of their "
            + "positions.");
        for (int[] places : new int[][] {{0, 1000}, {1000, 0}, {0, 0}, {1000, 1000}, {500, 501}, {501, 500}}) {
            RepairDuty group = dead(lost(7, 4), ranks(0, 7)).make();
            group.set(0, 1000);
            group.set(1, 500);
            group.change(4, 1, places[0]);
            group.change(0, 1, places[1]);
            int distance = Math.abs(places[0] - places[1]);
            Checks.due("at " + places[0] + " and " + places[1], group.repair(7), 12 + 2 * distance + 4500);
        }
    }

    private static void comesToEachLoser() {
        Checks.sentence("BLOCKS", "The block comes to each loser at this time plus the distance from the repairer; the "
            + "losers have it then.");
        RepairDuty group = lost(7, 0, 1, 3, 4, 5, 6, 7, 8, 9).make();
        for (int member = 0; member < 10; member++) {
            int due = member == 2 ? Groups.NONE : 12 + 100 + 100 * Math.abs(member - 2);
            Checks.due("comes to " + member, group.look(7, member, 2), due);
        }
        Checks.due("repair", group.repair(7), 12 + 100 + 700);
        for (int member = 0; member < 10; member++) {
            Checks.due("has it, " + member, group.lost(member, 7), 0);
        }
        RepairDuty dead = dead(lost(7, 1, 9), 9).make();
        dead.repair(7);
        Checks.due("only the losers have it", dead.lost(9, 7), 1);
        dead.lose(3, 8);
        Checks.due("only this block", dead.lost(3, 8), 1);
    }

    private static void theLastLoserItCameTo() {
        Checks.sentence("BLOCKS", "The time of a repair is that at which it came to the last one of them.");
        for (int far : new int[] {0, 1, 3, 9}) {
            RepairDuty group = lost(7, 0, 1, 3, 9).make();
            for (int member : new int[] {0, 1, 3, 9}) {
                group.change(member, 1, member == far ? 1000 : 210);
            }
            int time = group.look(7, far, 2);
            for (int member : new int[] {0, 1, 3, 9}) {
                Checks.due("comes to " + member, group.look(7, member, 2), member == far ? time : time - 790);
            }
            Checks.due("repair", group.repair(7), time);
            Checks.due("kept", group.past(0, 6), time);
        }
        RepairDuty silent = lost(0, 5, 7).make();
        silent.change(5, 1, 500);
        silent.change(7, 1, 511);
        Checks.due("the silent one is the last", silent.repair(0), 3 + 300 + 311);
        Checks.due("it was silent", silent.past(0, 4), 128);
        Checks.due("it has it", silent.lost(7, 0), 0);
    }

    private static void rewardsAndFines() {
        Checks.sentence("BLOCKS", "The repairer gets the reward. Each member that has missed a duty loses the fine.");
        for (int reward : new int[] {0, 1, 100}) {
            for (int fine : new int[] {0, 1, 100}) {
                RepairDuty group = dead(lost(7, 0), 2, 6, 0).make();
                group.live(0, true);
                group.set(3, reward);
                group.set(4, fine);
                losing(group, 8, 0, 8);
                group.repair(7);
                group.repair(8);
                for (int member = 0; member < 10; member++) {
                    int due = member == 2 ? -2 * fine : member == 6 ? -fine : member == 8 || member == 9 ? reward : 0;
                    Checks.due("credits of " + member, group.member(member, 3), due);
                    Checks.due("repairs of " + member, group.member(member, 6), member == 8 || member == 9 ? 1 : 0);
                }
            }
        }
    }

    private static void blocksToRepair() {
        Checks.sentence("Promise 20", "BAD if block is not in its range");
        for (int block : Edges.outside(0, 199)) {
            Edges.refusedEverywhere("repair " + block, group -> group.repair(block), Groups.BAD);
        }
        for (int block : new int[] {0, 199}) {
            Edges.act("repair " + block, lost(block, 3), group -> group.repair(block),
                (block == 0 ? 42 : 44) + 200);
        }
    }

    private static Edges.Maker[] hindered() {
        return new Edges.Maker[] {
            Edges::fresh,
            () -> losing(Edges.ten(), 7, 1),
            () -> losing(Edges.ten(), 7, 0, 1, 2, 3, 4, 5, 6, 7, 8, 9),
            Edges::tenDrawn,
            lost(8, 1),
            dead(lost(7, 1, 4), 1, 4),
            lost(7, ranks(0, 9)),
            dead(lost(7, 0), ranks(0, 8)),
            dead(lost(7, 2, 8, 6), 9, 7, 1, 5, 3, 4, 0),
            () -> killing(losing(Edges.busy(), 7, 0, 1, 2, 3, 4), 1)};
    }

    private static void repairNotPossible() {
        Checks.sentence("BLOCKS", "A repair is not possible if no round was drawn, the block has no losers, or there "
            + "is no repairer.");
        for (Edges.Maker maker : hindered()) {
            Edges.refused("repair", maker, group -> group.repair(7), Groups.STATE);
        }
        Edges.Maker undrawn = Edges.after(Edges::tenDrawn, group -> group.undo(), group -> group.lose(1, 7));
        Edges.refused("an undone draw", undrawn, group -> group.repair(7), Groups.STATE);
        Edges.refused("once more", Edges.after(lost(7, 1), group -> group.repair(7)), group -> group.repair(7),
            Groups.STATE);
        Edges.act("one with a rank that has it is enough", lost(7, ranks(0, 8)), group -> group.repair(7),
            12 + 100 + 450 + 900);
    }

    private static void repairIsAnAct() {
        Checks.sentence("Promise 20", "Repairs a block. This is an act.");
        Edges.act("one loser", lost(7, 0), group -> group.repair(7), 30 + 400);
        Edges.act("many losers", lost(7, ranks(1, 9)), group -> group.repair(7), 12 + 100 + 700);
        Edges.act("with missed duties", dead(lost(7, 0), 2, 8), group -> group.repair(7), 30 + 1200 + 100);
        Edges.act("busy", Edges::busy, group -> group.repair(0), Edges.busy().look(0, 4, 2));
    }

    private static void latestTwenty() {
        Checks.sentence("BLOCKS", "The latest 20 repairs are kept.");
        RepairDuty group = Edges.tenDrawn();
        for (int made = 0; made <= 65; made++) {
            for (int i = 0; made % 5 == 0 && i <= 22; i++) {
                int due = i < made && i < 20 ? 190 - (made - 1 - i) : Groups.NONE;
                Checks.due(made + " made, the block of " + i, group.past(i, 0), due);
            }
            Checks.due("the last one that is kept", group.past(19, 0), made < 20 ? Groups.NONE : 210 - made);
            Checks.due("the first one that is not", group.past(20, 0), Groups.NONE);
            group.lose(3, 190 - made);
            group.repair(190 - made);
        }
        group.undo();
        Checks.due("the oldest one is back with an undo", group.past(19, 0), 210 - 65);
        Checks.due("all are counted", group.about(7), 65);
    }

    private static void allBlocks() {
        Checks.sentence("Promise 21", "Repairs all blocks for which this is possible, in ascending order.");
        RepairDuty group = Edges.tenDrawn();
        for (int block = 199; block >= 0; block--) {
            group.lose(3, block);
        }
        Checks.due("all of them", group.repairAll(), 200);
        Checks.due("repairs", group.about(7), 200);
        Checks.due("questions", group.about(8), 200);
        Checks.due("credits", group.member(2, 3), 1000);
        for (int i = 0; i < 20; i++) {
            Checks.due("the latest ones", group.past(i, 0), 199 - i);
        }
        Checks.due("no more are kept", group.past(20, 0), Groups.NONE);
        Checks.due("none is lost", group.member(3, 5), 0);
        Checks.due("none is left", group.repairAll(), 0);
        group.undo();
        Checks.due("one act", group.undo(), 2);
        Checks.due("all are lost again", group.member(3, 5), 200);
        Checks.due("no repairs", group.about(7), 0);
    }

    private static void noBlocks() {
        Checks.sentence("Promise 21", "This is one act. Returns how many they were.");
        Edges.idleAct("new", Edges::fresh, group -> group.repairAll(), 0);
        Edges.idleAct("no round", () -> losing(Edges.ten(), 7, 1), group -> group.repairAll(), 0);
        Edges.idleAct("no losers", Edges::tenDrawn, group -> group.repairAll(), 0);
        Edges.idleAct("no repairer", lost(7, ranks(0, 9)), group -> group.repairAll(), 0);
        Edges.act("one", lost(0, 1), group -> group.repairAll(), 1);
        Edges.act("the last one", lost(199, 1), group -> group.repairAll(), 1);
        Edges.act("two", () -> losing(lost(0, 1).make(), 199, 2), group -> group.repairAll(), 2);
    }

    private static void someBlocks() {
        Checks.sentence("Promise 21", "all blocks for which this is possible");
        RepairDuty group = losing(losing(lost(0, 1, 2).make(), 100, ranks(0, 9)), 199, 5);
        losing(group, 50, 4);
        group.live(4, false);
        Checks.due("those that are possible", group.repairAll(), 2);
        Checks.due("first 0", group.past(1, 0), 0);
        Checks.due("then 199", group.past(0, 0), 199);
        Checks.due("not without a repairer", group.why(100), 3);
        Checks.due("not without a living loser", group.lost(4, 50), 1);
    }

    private static void blocksToLookAt() {
        Checks.sentence("Promise 22", "block: 0 to 199");
        for (int block : Edges.outside(0, 199)) {
            for (int what = 0; what <= 2; what++) {
                int number = what;
                Edges.told("busy, block " + block, Edges::busy, group -> group.look(block, 0, number), Groups.BAD);
                Checks.due("new", new RepairDuty().look(block, 0, number), Groups.BAD);
                Checks.due("no round", Edges.ten().look(block, 0, number), Groups.BAD);
            }
        }
        Edges.told("block 0", lost(0, 3), group -> group.look(0, 3, 1), 42);
        Edges.told("block 199", lost(199, 3), group -> group.look(199, 3, 1), 44);
    }

    private static void membersToLookAt() {
        Checks.sentence("Promise 22", "member: a member");
        for (int member : Edges.outside(0, 9)) {
            for (int what = 0; what <= 2; what++) {
                int number = what;
                Edges.told("member " + member, lost(7, 0, 9), group -> group.look(7, member, number), Groups.BAD);
                Checks.due("no round", Edges.ten().look(7, member, number), Groups.BAD);
            }
        }
        Checks.due("no members", new RepairDuty().look(7, 0, 0), Groups.BAD);
        Checks.due("no member 5 of five", Edges.busy().look(198, 5, 0), Groups.BAD);
        Edges.told("the first one", lost(7, 0, 9), group -> group.look(7, 0, 1), 30);
        Edges.told("the last one", lost(7, 0, 9), group -> group.look(7, 9, 1), 20);
    }

    private static void whatToLookAt() {
        Checks.sentence("Promise 22", "BAD if an argument is not in its range; STATE if a repair is not possible.");
        for (int what : Edges.outside(0, 2)) {
            Edges.told("what " + what, lost(7, 0, 9), group -> group.look(7, 0, what), Groups.BAD);
            Edges.told("what " + what + ", no loser", lost(7, 0, 9), group -> group.look(7, 4, what), Groups.BAD);
            Edges.told("what " + what + ", not possible", Edges::tenDrawn, group -> group.look(7, 0, what), Groups.BAD);
            Edges.told("what " + what + ", no round", Edges::ten, group -> group.look(7, 0, what), Groups.BAD);
        }
    }

    private static void lookNotPossible() {
        Checks.sentence("Promise 22", "STATE if a repair is not possible.");
        for (Edges.Maker maker : hindered()) {
            int due = maker.make().about(5) == 0 ? Groups.BAD : Groups.STATE;
            for (int what = 0; what <= 2; what++) {
                int number = what;
                Edges.told("look", maker, group -> group.look(7, 0, number), due);
                Edges.told("look", maker, group -> group.look(7, 1, number), due);
            }
        }
    }

    // Block 0: 5 asks first at 3; 3 asks, too, at 42 from 200 away; 7 is silent; 8 misses; 6 repairs.
    private static void allParts() {
        Checks.sentence("Promise 22", "0 what it would be: 0 nothing, 1 a loser that asks first, 2 one that asks, too, "
            + "3 one that is silent, 4 the repairer, 5 a member that misses a duty");
        Edges.Maker maker = () -> {
            RepairDuty group = dead(lost(0, 2, 3, 5, 7, 9), 8, 9).make();
            group.change(7, 1, 505);
            return group;
        };
        int[] due = {0, 0, 2, 2, 0, 1, 4, 3, 5, 0};
        for (int member = 0; member < 10; member++) {
            int number = member;
            Edges.told("part of " + member, maker, group -> group.look(0, number, 0), due[member]);
        }
        RepairDuty group = maker.make();
        group.repair(0);
        duePast("the same in the repair", group, 0, 1, 6, 4 + 8 + 32, 128, 256);
    }

    private static void noLoserToLookAt() {
        Checks.sentence("Promise 22", "1 its wait (NONE if it is no loser); 2 the time at which the block would come "
            + "to it (NONE if it is no loser)");
        Edges.Maker maker = () -> {
            RepairDuty group = killing(losing(Groups.drawn(Edges.nine(), 3, 4), 7, 0, 1), 1);
            group.join(1, 1);
            return group;
        };
        for (int what = 1; what <= 2; what++) {
            int number = what;
            for (int member = 1; member < 10; member++) {
                int no = member;
                Edges.told("no loser " + member, maker, group -> group.look(7, no, number), Groups.NONE);
            }
            Edges.Maker got = Edges.after(lost(7, 0, 1), group -> group.repair(7), group -> group.lose(3, 7));
            Edges.told("not once it was one", got, group -> group.look(7, 1, number), Groups.NONE);
        }
        Checks.holds("the loser has a wait", maker.make().look(7, 0, 1) >= 0);
        Checks.holds("and a time", maker.make().look(7, 0, 2) >= maker.make().look(7, 0, 1));
        RepairDuty null_ = lost(76, 1).make();
        null_.change(1, 1, 200);
        Checks.due("a wait of 0", null_.look(76, 1, 1), 0);
        Checks.due("a time of 0", null_.look(76, 1, 2), 0);
        Checks.due("a repair at the time 0", null_.repair(76), 0);
    }

    private static void lookIsTheRepair() {
        Checks.sentence("Promise 22", "Looks at a repair of a block, without making it.");
        for (int block = 0; block < 200; block += 7) {
            RepairDuty group = lost(block, 0, 1, 5, 8).make();
            int asked = 0;
            int silent = 0;
            int last = 0;
            for (int member : new int[] {0, 1, 5, 8}) {
                int part = group.look(block, member, 0);
                asked |= part == 1 || part == 2 ? 1 << member : 0;
                silent |= part == 3 ? 1 << member : 0;
                last = Math.max(last, group.look(block, member, 2));
            }
            Checks.due("still lost", group.member(0, 5), 1);
            Checks.due("repair", group.repair(block), last);
            duePast("the repair", group, block, 1, 2, asked, silent, 0, last);
        }
    }

    private static void whichRepair() {
        Checks.sentence("Promise 23", "BAD if i is negative");
        for (int i : new int[] {-1, -2, -20, -256, Integer.MIN_VALUE}) {
            for (int what = 0; what <= 6; what++) {
                int number = what;
                Edges.told("past " + i, Edges::busy, group -> group.past(i, number), Groups.BAD);
                Checks.due("new", new RepairDuty().past(i, number), Groups.BAD);
            }
        }
    }

    private static void numbersOfRepairs() {
        Checks.sentence("Promise 23", "i: 0 for the latest one, 1 for the one before it, and so on");
        RepairDuty group = Edges.tenDrawn();
        int[][] due = new int[25][];
        for (int made = 0; made < 25; made++) {
            int block = made * 8;
            losing(group, block, 1, 3, 9);
            due[made] = new int[] {block, 1, 2, 0, 0, 0, 0};
            for (int member : new int[] {1, 3, 9}) {
                int part = group.look(block, member, 0);
                due[made][3] |= part < 3 ? 1 << member : 0;
                due[made][4] |= part == 3 ? 1 << member : 0;
                due[made][6] = Math.max(due[made][6], group.look(block, member, 2));
            }
            group.repair(block);
        }
        for (int i = 0; i < 20; i++) {
            for (int what = 0; what <= 6; what++) {
                Checks.due("past " + i + " " + what, group.past(i, what), due[24 - i][what]);
            }
        }
        Checks.due("no 21st", group.past(20, 0), Groups.NONE);
    }

    private static void whatOfARepair() {
        Checks.sentence("Promise 23", "or what is not in its range; NONE if there is no such repair, or it is not "
            + "kept.");
        for (int what : Edges.outside(0, 6)) {
            Edges.told("new, " + what, Edges::fresh, group -> group.past(0, what), Groups.BAD);
            Edges.told("busy, " + what, Edges::busy, group -> group.past(0, what), Groups.BAD);
            for (int i : new int[] {1, 2, 19, 20, 99, Integer.MAX_VALUE}) {
                Checks.due("past " + i + " " + what, Edges.busy().past(i, what), Groups.BAD);
            }
        }
        RepairDuty group = dead(lost(0, 5, 7), 2).make();
        group.change(7, 1, 510);
        int time = group.repair(0);
        duePast("of a repair", group, 0, 1, 8, 32, 128, 4, time);
        group.set(2, 1);
        Groups.commitAndReveal(group, 9, 9);
        group.draw();
        group.lose(5, 199);
        group.repair(199);
        Checks.due("round of the next one", group.past(0, 1), 2);
        Checks.due("block of the next one", group.past(0, 0), 199);
        Checks.due("round of the one before", group.past(1, 1), 1);
    }

    private static void repairNotKept() {
        Checks.sentence("Promise 23", "NONE if there is no such repair, or it is not kept.");
        for (int what = 0; what <= 6; what++) {
            int number = what;
            Edges.told("none made", Edges::fresh, group -> group.past(0, number), Groups.NONE);
            Edges.told("two made", Edges::busy, group -> group.past(2, number), Groups.NONE);
            for (int i : new int[] {2, 19, 20, 21, 256, Integer.MAX_VALUE}) {
                Checks.due("past " + i, Edges.busy().past(i, number), Groups.NONE);
            }
            Edges.Maker undone = Edges.after(lost(7, 0), group -> group.repair(7), RepairDuty::undo);
            Edges.told("undone", undone, group -> group.past(0, number), Groups.NONE);
            Edges.told("refused", Edges.after(Edges::tenDrawn, group -> group.repair(7)),
                group -> group.past(0, number), Groups.NONE);
        }
        Checks.holds("the second of two", Edges.busy().past(1, 0) >= 0);
    }

    private static void whyInOrder() {
        Checks.sentence("Promise 24", "Returns 0 if it is possible, 1 if no round was drawn, 2 if there are no losers, "
            + "3 if there is no repairer (the first one that applies)");
        int[] due = {1, 1, 1, 2, 2, 2, 3, 3, 3, 3};
        Edges.Maker[] makers = hindered();
        for (int i = 0; i < due.length; i++) {
            Edges.told("case " + i, makers[i], group -> group.why(7), due[i]);
        }
        Edges.told("possible", lost(7, 0), group -> group.why(7), 0);
        Edges.told("the last one that has it", lost(7, ranks(0, 8)), group -> group.why(7), 0);
        Edges.told("all are dead, some have lost it", dead(lost(7, 0, 1), ranks(0, 9)), group -> group.why(7), 2);
        Edges.told("no round, no losers, all dead", () -> killing(Edges.ten(), 0, 1, 2, 3, 4, 5, 6, 7, 8, 9),
            group -> group.why(7), 1);
        Edges.told("a seed of 0 is a round", () -> {
            RepairDuty group = Edges.pair();
            group.set(2, 1);
            Groups.commitAndReveal(group, 0, secretOfSeedNull());
            group.draw();
            group.lose(group.duty(1), 7);
            return group;
        }, group -> group.why(7) + group.seed(), 0);
    }

    /** The secret with which the first round has the seed 0: MIX of it, changed at its lowest bit, is 0. */
    private static int secretOfSeedNull() {
        int inverse = 1;
        for (int i = 0; i < 5; i++) {
            inverse *= 2 - 1103515245 * inverse;
        }
        int x = -12345 * inverse;
        x ^= x >>> 15 ^ x >>> 30;
        return (x - 12345) * inverse ^ 1;
    }

    private static void blocksToAskWhy() {
        Checks.sentence("Promise 24", "BAD if block is not in its range.");
        for (int block : Edges.outside(0, 199)) {
            Edges.told("new, " + block, Edges::fresh, group -> group.why(block), Groups.BAD);
            Edges.told("busy, " + block, Edges::busy, group -> group.why(block), Groups.BAD);
        }
        for (int block : new int[] {0, 199}) {
            Edges.told("no round, " + block, Edges::fresh, group -> group.why(block), 1);
            Edges.told("no losers, " + block, Edges::tenDrawn, group -> group.why(block), 2);
            Edges.told("possible, " + block, lost(block, 1), group -> group.why(block), 0);
        }
    }

    /** Silence as bits, so that it can be told as a whole number. */
    private static long silenceOf(RepairDuty group) {
        return Float.floatToRawIntBits(group.silence());
    }

    private static void silenceOfNone() {
        Checks.sentence("Promise 25", "0 if that is 0.");
        Edges.told("new", Edges::fresh, EdgesOfRepairsTest::silenceOf, 0);
        Edges.told("no repair", lost(7, 0, 1), EdgesOfRepairsTest::silenceOf, 0);
        Edges.told("an undone repair", Edges.after(lost(7, 0, 1), group -> group.repair(7), RepairDuty::undo),
            EdgesOfRepairsTest::silenceOf, 0);
        Edges.told("questions alone", Edges.after(lost(7, 0), group -> group.repair(7)),
            EdgesOfRepairsTest::silenceOf, 0);
    }

    private static void silenceInFloats() {
        Checks.sentence("Promise 25", "Returns about(9) divided by the sum of about(8) and about(9), both as floats");
        RepairDuty group = Groups.drawn(Groups.at(0, 0, 0, 0), 21, 22);
        group.set(0, 1000);
        int shares = 0;
        for (int block = 0; block < 60; block++) {
            losing(group, block, group.duty(1), group.duty(2), group.duty(3));
            group.repair(block);
            float due = (float) group.about(9) / ((float) group.about(8) + (float) group.about(9));
            Checks.due("share of " + group.about(9), silenceOf(group), Float.floatToRawIntBits(due));
            shares += (double) due != (double) group.about(9) / (group.about(8) + group.about(9)) ? 1 : 0;
        }
        Checks.holds("a double would tell another share", shares > 10);
        RepairDuty half = lost(0, 5, 7).make();
        half.change(7, 1, 500);
        half.repair(0);
        Checks.due("one of two", (double) half.silence(), 0.5);
        half.lose(1, 1);
        half.repair(1);
        Checks.due("one of three", (double) half.silence(), (double) (1f / 3f));
    }

    private static void bestWaitOfNone() {
        Checks.sentence("Promise 26", "NONE if no block can be repaired.");
        for (Edges.Maker maker : hindered()) {
            boolean other = maker.make().repairAll() > 0;
            Edges.told(other ? "another one can" : "none can", maker, group -> group.bestWait(),
                other ? 1 : Groups.NONE);
        }
        Edges.told("no repairer for any", () -> losing(lost(0, ranks(0, 9)).make(), 199, ranks(0, 9)),
            group -> group.bestWait(), Groups.NONE);
    }

    private static void bestWaitOfAll() {
        Checks.sentence("Promise 26", "Returns the wait, of 1, 10, 30, 100, 300 and 1000, of several the smallest one");
        for (int block : new int[] {0, 199}) {
            Edges.told("one block", lost(block, 3), group -> group.bestWait(), 1);
            Edges.told("more losers", lost(block, ranks(1, 9)), group -> group.bestWait(), 1);
        }
        Edges.Maker all = () -> {
            RepairDuty group = Edges.tenDrawn();
            for (int block = 0; block < 200; block++) {
                group.lose(block % 10, block);
            }
            group.set(0, 1000);
            return group;
        };
        Edges.told("all blocks", all, group -> group.bestWait(), 1);
        Edges.told("the setting stays", Edges.after(all, group -> group.bestWait()), group -> group.about(0), 1000);
        Edges.told("the same sum with each wait to 300", EdgesOfRepairsTest::waitsOfNull, group -> group.bestWait(), 1);
    }

    /** Two members and a lost block; the wait is 0 with the setting 300, so it is with 1, 10, 30 and 100. */
    private static RepairDuty waitsOfNull() {
        for (int secret = 0; secret < 100; secret++) {
            RepairDuty group = Groups.drawn(Groups.at(0, 0), secret, secret);
            for (int block = 0; block < 200; block++) {
                if (Groups.waitOf(group.seed(), block, group.duty(1), 300) == 0) {
                    group.lose(group.duty(1), block);
                    return group;
                }
            }
        }
        return new RepairDuty();
    }
}
