/** Promises 8 to 14: MIX, commitments, reveals, the draw, the seed, the list. */
public final class LotteryTest {
    public static void main(String[] args) {
        mix();
        commit();
        commitWrongly();
        reveal();
        revealWrongly();
        drawNeedsReveals();
        drawTakesFines();
        drawTakesTheDeadIn();
        seedOfRounds();
        listByWeights();
        listStaysUntilTheDraw();
        ifLeft();
        ifLeftWrongly();
        Checks.end();
    }

    private static void mix() {
        RepairDuty group = new RepairDuty();
        Checks.due("mix(0)", group.mix(0), -740551042);
        Checks.due("mix(7)", group.mix(7), -1341733451);
        Checks.due("mix(-1)", group.mix(-1), -1092252532);
        for (int x : new int[] {1, 12345, Integer.MIN_VALUE, Integer.MAX_VALUE, -77}) {
            Checks.due("mix(" + x + ")", group.mix(x), Groups.mix(x));
        }
        Checks.due("mix is no act", group.undo(), Groups.NONE);
    }

    private static void commit() {
        RepairDuty group = Groups.at(0, 0);
        Checks.due("commit", group.commit(1, Groups.mix(6)), 0);
        Checks.due("stage", group.member(1, 8), 1);
        Checks.due("the other's stage", group.member(0, 8), 0);
        Checks.due("commit again", group.commit(1, Groups.mix(7)), 1);
        Checks.due("the earlier one is gone", group.reveal(1, 6), 0);
        Checks.due("commit after a wrong reveal", group.commit(1, Groups.mix(8)), 1);
        Checks.due("the wrong reveal is gone", group.member(1, 8), 1);
        group.reveal(1, 8);
        Checks.due("commit after a right reveal", group.commit(1, Groups.mix(8)), 1);
        Checks.due("the right reveal is gone", group.member(1, 8), 1);
        Checks.due("undo", group.undo(), 3);
        Checks.due("the reveal is there again", group.member(1, 8), 2);
        Groups.drawn(group, 1, 2);
        Checks.due("commit after the draw", group.commit(1, 0), 0);
    }

    private static void commitWrongly() {
        RepairDuty group = Groups.at(0, 0);
        for (int member : new int[] {-1, 2, 10, 33, Integer.MIN_VALUE, Integer.MAX_VALUE}) {
            Checks.due("commit " + member, group.commit(member, 1), Groups.BAD);
        }
        group.live(1, false);
        Checks.due("a dead one commits", group.commit(1, 1), Groups.STATE);
        Checks.due("nothing committed", group.member(1, 8), 0);
        Checks.due("errors are no acts", Groups.historyOf(group), 3);
    }

    private static void reveal() {
        RepairDuty group = Groups.at(0, 0);
        group.commit(0, Groups.mix(Integer.MIN_VALUE));
        Checks.due("wrong", group.reveal(0, Integer.MAX_VALUE), 0);
        Checks.due("stage wrong", group.member(0, 8), 3);
        Checks.due("right", group.reveal(0, Integer.MIN_VALUE), 1);
        Checks.due("stage right", group.member(0, 8), 2);
        Checks.due("right again", group.reveal(0, Integer.MIN_VALUE), 1);
        Checks.due("wrong in place of right", group.reveal(0, 0), 0);
        Checks.due("stage wrong again", group.member(0, 8), 3);
        Checks.due("reveal is an act", group.undo(), 3);
        Checks.due("stage undone", group.member(0, 8), 2);
    }

    private static void revealWrongly() {
        RepairDuty group = Groups.at(0, 0);
        for (int member : new int[] {-1, 2, 10, Integer.MIN_VALUE, Integer.MAX_VALUE}) {
            Checks.due("reveal " + member, group.reveal(member, 1), Groups.BAD);
        }
        Checks.due("not committed", group.reveal(0, 1), Groups.STATE);
        group.commit(0, Groups.mix(1));
        group.live(0, false);
        Checks.due("a dead one reveals", group.reveal(0, 1), Groups.STATE);
        Checks.due("its commitment stays", group.member(0, 8), 1);
        group.live(0, true);
        Checks.due("living again", group.reveal(0, 1), 1);
        Groups.drawn(group, 1, 2);
        Checks.due("after the draw", group.reveal(0, 1), Groups.STATE);
    }

    private static void drawNeedsReveals() {
        RepairDuty one = Groups.at(0, 0);
        one.set(2, 1);
        Checks.due("draw without a reveal", one.draw(), Groups.STATE);
        Groups.commitAndReveal(one, 1, 4);
        Checks.due("draw by one that is not the first", one.draw(), 1);
        Checks.due("its seed", one.seed(), Groups.mix(1 ^ 4));
        RepairDuty group = Groups.at(0, 0, 0);
        Checks.due("draw without reveals", group.draw(), Groups.STATE);
        Groups.commitAndReveal(group, 0, 4);
        group.commit(1, 5);
        group.reveal(1, 5);
        Checks.due("one right, one wrong", group.draw(), Groups.STATE);
        Checks.due("nothing is drawn", group.about(6), 0);
        Checks.due("the reveals stay", group.member(0, 8), 2);
        group.set(2, 1);
        Checks.due("one is enough", group.draw(), 1);
        Groups.commitAndReveal(group, 0, 4);
        Groups.commitAndReveal(group, 1, 4);
        group.set(2, 3);
        Checks.due("two of three", group.draw(), Groups.STATE);
        Groups.commitAndReveal(group, 2, 4);
        Checks.due("three of three", group.draw(), 2);
        Checks.due("draw is an act", group.undo(), 3);
        Checks.due("round undone", group.about(6), 1);
        Checks.due("the reveals are there again", group.member(2, 8), 2);
        Checks.due("the same draw", group.draw(), 2);
    }

    private static void drawTakesFines() {
        RepairDuty group = Groups.at(0, 0, 0, 0, 0);
        group.set(4, 7);
        Groups.commitAndReveal(group, 0, 1);
        Groups.commitAndReveal(group, 1, 1);
        group.commit(2, 1);
        group.commit(3, 1);
        group.reveal(3, 1);
        group.draw();
        int[] due = {0, 0, -7, -7, 0};
        for (int member = 0; member < due.length; member++) {
            Checks.due("credits " + member, group.member(member, 3), due[member]);
            Checks.due("no missed duty " + member, group.member(member, 7), 0);
            Checks.due("stage gone " + member, group.member(member, 8), 0);
        }
    }

    private static void drawTakesTheDeadIn() {
        RepairDuty group = Groups.at(0, 0, 0);
        Groups.commitAndReveal(group, 0, 11);
        Groups.commitAndReveal(group, 1, 12);
        group.commit(2, 1);
        group.live(1, false);
        group.live(2, false);
        Checks.due("a dead one's reveal counts", group.draw(), 1);
        Checks.due("and mixes", group.seed(), Groups.mix(Groups.mix(1 ^ 11) ^ 12));
        Checks.due("a dead one is fined", group.member(2, 3), -3);
        Checks.holds("a dead one has a rank", group.member(1, 4) >= 0);
        Checks.holds("so has the other", group.member(2, 4) >= 0);
    }

    private static void seedOfRounds() {
        RepairDuty group = Groups.at(0, 0, 0);
        Checks.due("before the first round", group.seed(), Groups.NO_SEED);
        Groups.commitAndReveal(group, 2, -5);
        Groups.commitAndReveal(group, 0, 99);
        group.commit(1, 3);
        group.reveal(1, 3);
        group.draw();
        Checks.due("first round", group.seed(), Groups.mix(Groups.mix(1 ^ 99) ^ -5));
        Groups.drawn(group, 0, 7);
        Checks.due("second round", group.seed(), Groups.mix(Groups.mix(2) ^ 7));
        Checks.due("undo", group.undo(), 3);
        Checks.due("the seed undone", group.seed(), Groups.mix(Groups.mix(1 ^ 99) ^ -5));
    }

    private static void listByWeights() {
        for (int secret = 0; secret < 40; secret++) {
            RepairDuty group = new RepairDuty();
            int[] weights = {9, 1, 3, 3, 7, 1, 5, 2, 8, 4};
            for (int weight : weights) {
                group.join(weight, 0);
            }
            Groups.drawn(group, secret, 1000 * secret);
            int[] list = Groups.list((int) group.seed(), weights);
            for (int rank = 0; rank < list.length; rank++) {
                Checks.due("duty " + rank, group.duty(rank), list[rank]);
                Checks.due("rank", group.member(list[rank], 4), rank);
            }
            Checks.due("duty 10", group.duty(10), Groups.NONE);
        }
    }

    private static void listStaysUntilTheDraw() {
        RepairDuty group = Groups.drawn(Groups.at(0, 0, 0), 3, 4);
        int first = group.duty(0);
        group.change(first, 0, 1);
        group.live(first, false);
        group.join(9, 0);
        Checks.due("the list stays", group.duty(0), first);
        Checks.due("a later one is not on it", group.duty(3), Groups.NONE);
        Checks.due("negative rank", group.duty(-1), Groups.BAD);
        Checks.due("least rank", group.duty(Integer.MIN_VALUE), Groups.BAD);
        Checks.due("greatest rank", group.duty(Integer.MAX_VALUE), Groups.NONE);
        group.live(first, true);
        Groups.drawn(group, 3, 4);
        Checks.holds("then it is", group.duty(3) >= 0 && group.duty(3) < 4);
        Checks.holds("then it has a rank", group.member(3, 4) >= 0);
    }

    private static void ifLeft() {
        RepairDuty group = Groups.at(0, 0, 0, 0);
        group.set(2, 1);
        for (int member = 0; member < 3; member++) {
            Groups.commitAndReveal(group, member, 50 + member);
        }
        long before = group.fingerprint();
        for (int left = 0; left < 16; left++) {
            int seed = 1;
            for (int member = 0; member < 3; member++) {
                seed = (left >> member & 1) == 0 ? Groups.mix(seed ^ (50 + member)) : seed;
            }
            int[] list = Groups.list(seed, 1, 2, 3, 4);
            for (int rank = 0; rank < 4; rank++) {
                int due = (left & 7) == 7 ? Groups.STATE : list[rank];
                Checks.due("ifLeft " + left + " " + rank, group.ifLeft(left, rank), due);
            }
        }
        Checks.due("ifLeft changes nothing", group.fingerprint(), before);
        int first = group.ifLeft(0, 0);
        int last = group.ifLeft(0, 3);
        group.draw();
        Checks.due("as the draw", group.duty(0), first);
        Checks.due("as the draw", group.duty(3), last);
        Groups.commitAndReveal(group, 3, 5);
        Checks.due("of the next round", group.ifLeft(7, 0), Groups.list(Groups.mix(2 ^ 5), 1, 2, 3, 4)[0]);
    }

    private static void ifLeftWrongly() {
        RepairDuty group = Groups.at(0, 0);
        Checks.due("too few", group.ifLeft(0, 0), Groups.STATE);
        Groups.commitAndReveal(group, 0, 1);
        Groups.commitAndReveal(group, 1, 1);
        Checks.due("two of two left", group.ifLeft(1022, 0), Groups.STATE);
        Checks.due("others left", group.ifLeft(1020, 0), group.ifLeft(0, 0));
        Checks.due("too few before too high", group.ifLeft(1023, 99), Groups.STATE);
        Checks.due("not so many", group.ifLeft(0, 2), Groups.NONE);
        Checks.due("greatest rank", group.ifLeft(0, Integer.MAX_VALUE), Groups.NONE);
        int[][] wrong = {{-1, 0}, {1024, 0}, {0, -1}, {1023, -1}, {Integer.MIN_VALUE, 0}, {Integer.MAX_VALUE, 0},
            {0, Integer.MIN_VALUE}};
        for (int[] pair : wrong) {
            Checks.due("ifLeft " + pair[0] + " " + pair[1], group.ifLeft(pair[0], pair[1]), Groups.BAD);
        }
    }
}
