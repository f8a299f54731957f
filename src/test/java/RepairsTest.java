/** Promises 20 to 26: repairs, what would come of them, what came of them, and why not. */
public final class RepairsTest {
    public static void main(String[] args) {
        why();
        repairNotPossible();
        repairOfOneLoser();
        losersThatAskAndAreSilent();
        edgeOfSilence();
        firstOfSeveral();
        everyMemberInEveryPart();
        heardFromTheNearer();
        rankMakesLater();
        dutiesPassedOver();
        onlyTheLivingGetIt();
        rewardAndFine();
        repairAll();
        repairAllAsOneByOne();
        look();
        lookWrongly();
        pastIsKept();
        pastWrongly();
        silence();
        bestWait();
        bestWaitOfSeveral();
        Checks.end();
    }

    /** Five members, drawn; their positions come with the test. */
    private static RepairDuty five(int... positions) {
        return Groups.drawn(Groups.at(positions), 21, 22);
    }

    private static int wait(RepairDuty group, int block, int member) {
        return Groups.waitOf(group.seed(), block, member, group.about(0));
    }

    private static void why() {
        RepairDuty group = Groups.at(0, 0, 0);
        Checks.due("no round", group.why(4), 1);
        group.lose(0, 4);
        Checks.due("no round, losers", group.why(4), 1);
        Groups.drawn(group, 1, 2);
        Checks.due("possible", group.why(4), 0);
        Checks.due("no losers", group.why(5), 2);
        group.live(0, false);
        Checks.due("no living losers", group.why(4), 2);
        group.live(1, false);
        group.lose(2, 4);
        Checks.due("the only living one has lost it", group.why(4), 3);
        group.join(5, 5);
        Checks.due("one without a rank does not repair", group.why(4), 3);
        group.live(1, true);
        Checks.due("one that has it lives again", group.why(4), 0);
        group.live(2, false);
        Checks.due("no losers again", group.why(4), 2);
        for (int block : new int[] {-1, 200, Integer.MIN_VALUE, Integer.MAX_VALUE}) {
            Checks.due("why " + block, group.why(block), Groups.BAD);
        }
        Checks.due("block 0", group.why(0), 2);
        Checks.due("block 199", group.why(199), 2);
        Checks.due("why is no act", group.undo(), 3);
        Checks.due("the last act is undone", group.why(4), 0);
    }

    private static void repairNotPossible() {
        RepairDuty group = Groups.at(0, 0);
        group.lose(0, 4);
        Checks.due("no round", group.repair(4), Groups.STATE);
        Groups.drawn(group, 1, 2);
        Checks.due("no losers", group.repair(5), Groups.STATE);
        group.lose(1, 4);
        Checks.due("no repairer", group.repair(4), Groups.STATE);
        for (int block : new int[] {-1, 200, Integer.MIN_VALUE, Integer.MAX_VALUE}) {
            Checks.due("repair " + block, group.repair(block), Groups.BAD);
        }
        Checks.due("no repair was made", group.about(7), 0);
        Checks.due("still lost", group.lost(0, 4), 1);
        group.undo();
        Checks.due("errors are no acts", group.why(4), 0);
    }

    private static void repairOfOneLoser() {
        RepairDuty group = five(100, 250, 420, 700, 1000);
        int repairer = group.duty(0);
        int loser = group.duty(3);
        int distance = Math.abs(group.member(repairer, 1) - group.member(loser, 1));
        group.lose(loser, 17);
        int due = wait(group, 17, loser) + 2 * distance;
        Checks.due("look at it", group.look(17, loser, 2), due);
        Checks.due("repair", group.repair(17), due);
        Checks.due("it has the block", group.lost(loser, 17), 0);
        Checks.due("lost nothing", group.member(loser, 5), 0);
        Checks.due("no losers", group.why(17), 2);
        Checks.due("not again", group.repair(17), Groups.STATE);
        int[] past = {17, 1, repairer, 1 << loser, 0, 0, due};
        for (int what = 0; what < past.length; what++) {
            Checks.due("past " + what, group.past(0, what), past[what]);
        }
        Checks.due("repairs made", group.member(repairer, 6), 1);
        Checks.due("repairs of the loser", group.member(loser, 6), 0);
    }

    private static void losersThatAskAndAreSilent() {
        for (int block = 0; block < 50; block++) {
            RepairDuty group = five(300, 300, 300, 300, 300);
            group.set(0, 1000);
            int repairer = group.duty(0);
            int losers = 31 & ~(1 << repairer);
            int first = -1;
            for (int member = 0; member < 5; member++) {
                if (member != repairer) {
                    group.lose(member, block);
                    boolean sooner = first < 0 || wait(group, block, member) < wait(group, block, first);
                    first = sooner ? member : first;
                }
            }
            int asked = 0;
            for (int member = 0; member < 5; member++) {
                boolean asks = member != repairer && wait(group, block, member) == wait(group, block, first);
                asked |= asks ? 1 << member : 0;
            }
            Checks.due("repair " + block, group.repair(block), wait(group, block, first));
            Checks.due("asked", group.past(0, 3), asked);
            Checks.due("silent", group.past(0, 4), losers & ~asked);
            Checks.due("questions", group.about(8), Integer.bitCount(asked));
            Checks.due("silent ones", group.about(9), 4 - Integer.bitCount(asked));
        }
    }

    private static void edgeOfSilence() {
        RepairDuty group = five(0, 0, 0, 0, 0);
        int repairer = group.duty(0);
        int one = group.duty(1);
        int two = group.duty(2);
        group.lose(one, 9);
        group.lose(two, 9);
        int first = wait(group, 9, one) <= wait(group, 9, two) ? one : two;
        int second = first == one ? two : one;
        int apart = wait(group, 9, second) - wait(group, 9, first);
        Checks.holds("their waits differ", apart > 1);
        group.change(first, 1, 500);
        group.change(second, 1, 500 + apart);
        Checks.due("just near enough to ask", group.look(9, second, 0), 2);
        group.change(second, 1, 500 - apart);
        Checks.due("to the other side", group.look(9, second, 0), 2);
        group.change(second, 1, 500 + apart - 1);
        Checks.due("too near to ask", group.look(9, second, 0), 3);
        Checks.due("the first one asks", group.look(9, first, 0), 1);
        int heard = wait(group, 9, first) + 500;
        Checks.due("the silent one gets it, too", group.look(9, second, 2), heard + 500 + apart - 1);
        Checks.due("repair", group.repair(9), heard + 500 + apart - 1);
        Checks.due("asked", group.past(0, 3), 1 << first);
        Checks.due("silent", group.past(0, 4), 1 << second);
        Checks.due("the silent one has it", group.lost(second, 9), 0);
        Checks.due("no wait for the repairer", repairer, group.past(0, 2));
    }

    private static void firstOfSeveral() {
        RepairDuty group = five(0, 40, 80, 120, 160);
        group.set(0, 1);
        int repairer = group.duty(0);
        int first = repairer == 0 ? 1 : 0;
        for (int member = 4; member >= 0; member--) {
            if (member != repairer) {
                group.lose(member, 60);
            }
        }
        for (int member = 0; member < 5; member++) {
            int part = member == repairer ? 4 : member == first ? 1 : 2;
            Checks.due("part of " + member, group.look(60, member, 0), part);
            Checks.due("wait of " + member, group.look(60, member, 1), member == repairer ? Groups.NONE : 0);
        }
    }

    /** Two losers and one dead member before the repairer: over the rounds each member is each of them. */
    private static void everyMemberInEveryPart() {
        int[] parts = new int[6];
        for (int secret = 0; secret < 60; secret++) {
            RepairDuty group = Groups.drawn(Groups.at(0, 1000, 300, 600), secret, -secret);
            group.set(0, 900);
            int dead = group.duty(0);
            int repairer = group.duty(1);
            int one = group.duty(2);
            int two = group.duty(3);
            group.live(dead, false);
            group.lose(one, secret);
            group.lose(two, secret);
            int first = two < one ? two : one;
            int second = first == one ? two : one;
            if (wait(group, secret, second) < wait(group, secret, first)) {
                first = second;
                second = first == one ? two : one;
            }
            int far = Math.abs(group.member(first, 1) - group.member(second, 1));
            boolean asks = wait(group, secret, second) <= wait(group, secret, first) + far;
            int toFirst = Math.abs(group.member(first, 1) - group.member(repairer, 1));
            int toSecond = Math.abs(group.member(second, 1) - group.member(repairer, 1));
            int heard = wait(group, secret, first) + toFirst;
            heard = asks ? Math.min(heard, wait(group, secret, second) + toSecond) : heard;
            Checks.due("first", group.look(secret, first, 0), 1);
            Checks.due("second", group.look(secret, second, 0), asks ? 2 : 3);
            Checks.due("time at the first", group.look(secret, first, 2), heard + 50 + toFirst);
            Checks.due("time at the second", group.look(secret, second, 2), heard + 50 + toSecond);
            Checks.due("dead", group.look(secret, dead, 0), 5);
            group.repair(secret);
            Checks.due("missed", group.member(dead, 7), 1);
            Checks.due("fined", group.member(dead, 3), -3);
            group.live(dead, true);
            group.lose(one, secret);
            Checks.due("no duty missed then", group.look(secret, repairer, 0), 0);
            group.repair(secret);
            Checks.due("nobody missed then", group.past(0, 5), 0);
            parts[asks ? 2 : 3]++;
        }
        Checks.holds("some asked and some were silent", parts[2] > 9 && parts[3] > 9);
    }

    private static void heardFromTheNearer() {
        RepairDuty group = five(0, 0, 0, 0, 0);
        group.set(0, 1000);
        int repairer = group.duty(0);
        int one = group.duty(1);
        int two = group.duty(2);
        int block = 0;
        int apart = 0;
        for (block = 0; block < 199 && (apart < 20 || apart > 300); block++) {
            apart = wait(group, block + 1, two) - wait(group, block + 1, one);
        }
        group.lose(one, block);
        group.lose(two, block);
        group.change(repairer, 1, 1000);
        group.change(two, 1, 900);
        Checks.due("the later one asks, too", group.look(block, two, 0), 2);
        int heard = wait(group, block, two) + 100;
        Checks.holds("and is heard sooner", heard < wait(group, block, one) + 1000);
        Checks.due("at the near one", group.look(block, two, 2), heard + 100);
        Checks.due("at the far one", group.look(block, one, 2), heard + 1000);
        Checks.due("repair", group.repair(block), heard + 1000);
    }

    private static void rankMakesLater() {
        RepairDuty group = five(0, 0, 0, 0, 0);
        int loser = group.duty(4);
        group.lose(loser, 33);
        int wait = wait(group, 33, loser);
        for (int rank = 0; rank < 4; rank++) {
            Checks.due("rank " + rank, group.look(33, loser, 2), wait + 50 * rank);
            group.set(1, 500);
            Checks.due("greatest step, rank " + rank, group.look(33, loser, 2), wait + 500 * rank);
            group.set(1, 0);
            Checks.due("no step, rank " + rank, group.look(33, loser, 2), wait);
            group.set(1, 50);
            group.live(group.duty(rank), false);
        }
        Checks.due("nobody is left", group.why(33), 3);
    }

    private static void dutiesPassedOver() {
        RepairDuty group = five(0, 0, 0, 0, 0);
        int deadWith = group.duty(0);
        int livingWithout = group.duty(1);
        int deadWithout = group.duty(2);
        int repairer = group.duty(3);
        int deadAfter = group.duty(4);
        group.live(deadWith, false);
        group.lose(livingWithout, 80);
        group.lose(deadWithout, 80);
        group.live(deadWithout, false);
        group.live(deadAfter, false);
        Checks.due("a dead one that has it", group.look(80, deadWith, 0), 5);
        Checks.due("a dead one that has not", group.look(80, deadWithout, 0), 5);
        Checks.due("no wait of a dead one", group.look(80, deadWithout, 1), Groups.NONE);
        Checks.due("no time of a dead one", group.look(80, deadWithout, 2), Groups.NONE);
        Checks.due("a living one that has not", group.look(80, livingWithout, 0), 1);
        Checks.due("the repairer", group.look(80, repairer, 0), 4);
        Checks.due("a dead one behind it", group.look(80, deadAfter, 0), 0);
        Checks.due("repair", group.repair(80), wait(group, 80, livingWithout) + 150);
        Checks.due("missed duties", group.past(0, 5), 1 << deadWith | 1 << deadWithout);
        Checks.due("its repairer", group.past(0, 2), repairer);
        int[] members = {deadWith, livingWithout, deadWithout, repairer, deadAfter};
        int[] missed = {1, 0, 1, 0, 0};
        int[] repaired = {0, 0, 0, 1, 0};
        int[] credits = {-3, 0, -3, 5, 0};
        for (int i = 0; i < members.length; i++) {
            Checks.due("credits", group.member(members[i], 3), credits[i]);
            Checks.due("repairs", group.member(members[i], 6), repaired[i]);
            Checks.due("missed", group.member(members[i], 7), missed[i]);
        }
    }

    private static void onlyTheLivingGetIt() {
        RepairDuty group = five(0, 0, 0, 0, 0);
        int living = group.duty(3);
        int dead = group.duty(4);
        group.lose(living, 2);
        group.lose(dead, 2);
        group.live(dead, false);
        group.repair(2);
        Checks.due("the living one has it", group.lost(living, 2), 0);
        Checks.due("the dead one has not", group.lost(dead, 2), 1);
        Checks.due("the dead one did not ask", group.past(0, 3), 1 << living);
        group.live(dead, true);
        Checks.due("it is a loser then", group.look(2, dead, 0), 1);
        group.join(1, 1);
        group.lose(5, 3);
        Checks.due("a loser without a rank", group.look(3, 5, 0), 1);
        Checks.due("gets it", group.repair(3), group.past(0, 6));
        Checks.due("has it", group.lost(5, 3), 0);
    }

    private static void rewardAndFine() {
        RepairDuty group = five(0, 0, 0, 0, 0);
        group.set(3, 100);
        group.set(4, 0);
        group.live(group.duty(0), false);
        group.lose(group.duty(3), 5);
        group.repair(5);
        Checks.due("the greatest reward", group.member(group.duty(1), 3), 100);
        Checks.due("no fine", group.member(group.duty(0), 3), 0);
        Checks.due("but missed", group.member(group.duty(0), 7), 1);
        group.set(3, 0);
        group.set(4, 100);
        group.lose(group.duty(3), 5);
        group.repair(5);
        Checks.due("no reward", group.member(group.duty(1), 3), 100);
        Checks.due("the greatest fine", group.member(group.duty(0), 3), -100);
        Checks.due("repair is an act", group.undo(), 3);
        Checks.due("fine undone", group.member(group.duty(0), 3), 0);
        Checks.due("lost again", group.lost(group.duty(3), 5), 1);
        Checks.due("repairs undone", group.about(7), 1);
    }

    private static void repairAll() {
        RepairDuty group = Groups.at(0, 200, 0);
        Groups.type(group, "0:0;199:1;50:012;7:02");
        group.read();
        Checks.due("before the first round", group.repairAll(), 0);
        Checks.due("is an act", group.undo(), 3);
        Groups.drawn(group, 5, 6);
        Checks.due("how many", group.repairAll(), 3);
        int[] blocks = {199, 7, 0};
        for (int i = 0; i < blocks.length; i++) {
            Checks.due("in ascending order", group.past(i, 0), blocks[i]);
        }
        Checks.due("not possible", group.lost(0, 50), 1);
        Checks.due("repaired", group.lost(1, 199), 0);
        Checks.due("repairs", group.about(7), 3);
        Checks.due("is one act", group.undo(), 3);
        Checks.due("nothing is repaired", group.about(7), 0);
        Checks.due("lost again", group.lost(1, 199), 1);
        Checks.due("how many again", group.repairAll(), 3);
        Checks.due("none is left", group.repairAll(), 0);
    }

    private static void repairAllAsOneByOne() {
        RepairDuty all = groupOfLosses(8);
        RepairDuty single = groupOfLosses(8);
        int repairs = 0;
        for (int block = 0; block < 200; block++) {
            if (single.why(block) == 0) {
                single.repair(block);
                repairs++;
            }
        }
        Checks.due("as many as one by one", all.repairAll(), repairs);
        Checks.holds("several", repairs > 5);
        Checks.due("the same came of it", all.fingerprint(), single.fingerprint());
    }

    private static void look() {
        RepairDuty group = five(10, 200, 450, 600, 990);
        for (int block = 0; block < 5; block++) {
            group.lose(group.duty(2), block);
            group.lose(group.duty(4), block);
            int one = group.duty(2);
            int two = group.duty(4);
            Checks.due("wait", group.look(block, one, 1), wait(group, block, one));
            Checks.due("wait", group.look(block, two, 1), wait(group, block, two));
            Checks.due("nothing", group.look(block, group.duty(1), 0), 0);
            Checks.due("no wait", group.look(block, group.duty(0), 1), Groups.NONE);
            Checks.due("no time", group.look(block, group.duty(1), 2), Groups.NONE);
            long before = group.fingerprint();
            int last = Math.max(group.look(block, one, 2), group.look(block, two, 2));
            Checks.due("look changes nothing", group.fingerprint(), before);
            Checks.due("the last one's time", group.repair(block), last);
        }
    }

    private static void lookWrongly() {
        RepairDuty group = Groups.at(0, 0);
        Checks.due("no round", group.look(0, 0, 0), Groups.STATE);
        Groups.drawn(group, 1, 2);
        Checks.due("no losers", group.look(0, 0, 0), Groups.STATE);
        Checks.due("no losers", group.look(0, 1, 2), Groups.STATE);
        int[][] wrong = {{-1, 0, 0}, {200, 0, 0}, {0, -1, 0}, {0, 2, 0}, {0, 0, -1}, {0, 0, 3}, {0, 40, 0},
            {Integer.MIN_VALUE, 0, 0}, {0, Integer.MAX_VALUE, 0}, {0, 0, Integer.MIN_VALUE}};
        for (int pass = 0; pass < 2; pass++) {
            for (int[] row : wrong) {
                Checks.due("look " + row[0] + " " + row[1] + " " + row[2],
                    group.look(row[0], row[1], row[2]), Groups.BAD);
            }
            group.lose(0, 0);
        }
        Checks.due("possible", group.look(0, 0, 0), 1);
        group.lose(1, 0);
        Checks.due("no repairer", group.look(0, 0, 0), Groups.STATE);
    }

    private static void pastIsKept() {
        RepairDuty group = five(0, 100, 200, 300, 400);
        for (int i = 0; i < 27; i++) {
            int block = i * 7;
            group.lose(group.duty(2), block);
            int time = group.repair(block);
            Checks.due("the latest block", group.past(0, 0), block);
            Checks.due("the latest time", group.past(0, 6), time);
            for (int k = 0; k <= 30; k++) {
                int due = k > i || k >= 20 ? Groups.NONE : (i - k) * 7;
                Checks.due("block of past " + k, group.past(k, 0), due);
            }
            if (i == 12) {
                group.change(group.duty(2), 0, 1);
                Groups.drawn(group, 3, 4);
            }
        }
        Checks.due("round of the latest", group.past(0, 1), 2);
        Checks.due("round of the 14th", group.past(13, 1), 2);
        Checks.due("round of the 15th", group.past(14, 1), 1);
        Checks.due("all are counted", group.about(7), 27);
        group.undo();
        Checks.due("one undone", group.about(7), 26);
        Checks.due("all 20 are there", group.past(19, 0), group.past(0, 0) - 19 * 7);
        Checks.due("no 21st", group.past(20, 0), Groups.NONE);
    }

    private static void pastWrongly() {
        RepairDuty group = five(0, 0, 0, 0, 0);
        for (int pass = 0; pass < 2; pass++) {
            int[][] wrong = {{-1, 0}, {0, -1}, {0, 7}, {-1, 7}, {99, 7}, {Integer.MIN_VALUE, 0},
                {0, Integer.MIN_VALUE}, {0, Integer.MAX_VALUE}};
            for (int[] pair : wrong) {
                Checks.due("past " + pair[0] + " " + pair[1], group.past(pair[0], pair[1]), Groups.BAD);
            }
            Checks.due("past 1", group.past(1, 0), Groups.NONE);
            Checks.due("past of the greatest", group.past(Integer.MAX_VALUE, 6), Groups.NONE);
            group.lose(group.duty(1), 1);
            group.repair(1);
        }
    }

    private static void silence() {
        RepairDuty group = five(0, 0, 0, 0, 0);
        Checks.due("none yet", (double) group.silence(), 0.0);
        group.set(0, 1000);
        int asked = 0;
        int silent = 0;
        for (int block = 0; block < 10; block++) {
            group.lose(group.duty(1), block);
            group.lose(group.duty(2), block);
            group.lose(group.duty(3), block);
            group.repair(block);
            asked += Integer.bitCount(group.past(0, 3));
            silent += Integer.bitCount(group.past(0, 4));
            Checks.due("share", (double) group.silence(), (double) ((float) silent / (float) (asked + silent)));
        }
        Checks.due("asked", group.about(8), asked);
        Checks.due("silent", group.about(9), silent);
        Checks.holds("some were silent", silent > 0);
    }

    /** The sum of the times of all repairs, made one by one with a wait, on a group that is spent then. */
    private static int sumOfTimes(RepairDuty group, int wait) {
        group.set(0, wait);
        int sum = 0;
        for (int block = 0; block < 200; block++) {
            sum += group.why(block) == 0 ? group.repair(block) : 0;
        }
        return sum;
    }

    private static RepairDuty groupOfLosses(int run) {
        RepairDuty group = new RepairDuty();
        for (int i = 0; i < 6; i++) {
            group.join(i + 1, run * 37 % 1000 / (i + 1) * i % 1001);
        }
        Groups.drawn(group, run, run + 1);
        for (int i = 0; i <= run % 9; i++) {
            group.lose((run + i) % 6, i * 11);
            group.lose((run + 2 * i) % 6, i * 11);
            group.lose((run + 3 * i) % 6, i * 11);
        }
        return group;
    }

    // With the wait 1 all ask at once and nobody is heard later, so no other wait can ever have a smaller sum.
    private static void bestWait() {
        for (int run = 0; run < 400; run++) {
            int best = Groups.NONE;
            int bestSum = Integer.MAX_VALUE;
            for (int wait : new int[] {1, 10, 30, 100, 300, 1000}) {
                int sum = sumOfTimes(groupOfLosses(run), wait);
                if (sum < bestSum) {
                    bestSum = sum;
                    best = wait;
                }
            }
            RepairDuty group = groupOfLosses(run);
            long before = group.fingerprint();
            Checks.due("best wait of run " + run, group.bestWait(), best);
            Checks.due("bestWait changes nothing", group.fingerprint(), before);
        }
    }

    private static void bestWaitOfSeveral() {
        RepairDuty group = Groups.at(0, 0);
        Checks.due("no round", group.bestWait(), Groups.NONE);
        Groups.drawn(group, 1, 2);
        Checks.due("no losers", group.bestWait(), Groups.NONE);
        group.lose(0, 7);
        group.set(0, 500);
        Checks.due("one loser, whatever the setting", group.bestWait(), 1);
        group.lose(1, 7);
        Checks.due("no repairer", group.bestWait(), Groups.NONE);
    }
}
