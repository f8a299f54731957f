/** Promises 8 to 14 and the lottery, sentence by sentence: the first and the last that is allowed, or wraps around. */
public final class EdgesOfLotteryTest {
    private static final int[] ANY_INT = {0, 1, -1, 5, Integer.MIN_VALUE, Integer.MAX_VALUE};

    public static void main(String[] args) {
        mixOverflows();
        mixShiftsZerosIn();
        mixOfAnyInt();
        lotsAreNotNegative();
        lotsAtTheEdges();
        noMemberToCommit();
        onlyTheLivingCommit();
        anyIntIsTold();
        committedBefore();
        revealIsGone();
        noMemberToReveal();
        onlyTheLivingReveal();
        onlyTheCommittedReveal();
        anyIntIsRevealed();
        inPlaceOfAnEarlierReveal();
        tooFewReveals();
        leastNumberOfReveals();
        deadRevealsCount();
        roundsGrow();
        seedsOfRounds();
        seedOfOneAndOfTen();
        whoIsFined();
        allIsGoneThen();
        seedBeforeTheFirstRound();
        rankIsThePlace();
        ranksOfTheList();
        listOfOneAndOfTen();
        listTakesTheDeadIn();
        laterMembers();
        setsOfIfLeft();
        ranksOfIfLeft();
        tooFewIfLeft();
        ifLeftIsTheNextDraw();
        Checks.end();
    }

    private static void mixOverflows() {
        Checks.sentence("NUMBERS", "x becomes x * 1103515245 + 12345, as an int with overflow");
        int[][] due = {{0, -740551042}, {1, 458802971}, {2, 78267003}, {-12345, 1009452357}, {65536, 703723232},
            {Integer.MAX_VALUE, -1923969908}, {Integer.MAX_VALUE - 1, 1641684369},
            {Integer.MIN_VALUE, -1572268418}, {Integer.MIN_VALUE + 1, -372914405}};
        for (int[] pair : due) {
            Checks.due("mix(" + pair[0] + ")", new RepairDuty().mix(pair[0]), pair[1]);
        }
    }

    // Of each of these the first step is negative, so other bits than zeros would show.
    private static void mixShiftsZerosIn() {
        Checks.sentence("NUMBERS", "x shifted right by 15 bits, zeros coming in");
        int[][] due = {{-1, -1092252532}, {7, -1341733451}, {12345, -2035075705}, {32767, -476743179},
            {-65536, 1503331948}, {2147483646, 1641684369}};
        for (int[] pair : due) {
            Checks.due("mix(" + pair[0] + ")", new RepairDuty().mix(pair[0]), pair[1]);
        }
    }

    private static void mixOfAnyInt() {
        Checks.sentence("Promise 8", "x: any int");
        for (int x : ANY_INT) {
            Edges.told("mix(" + x + "), new", Edges::fresh, group -> group.mix(x), Groups.mix(x));
            Edges.told("mix(" + x + "), busy", Edges::busy, group -> group.mix(x), Groups.mix(x));
        }
    }

    private static void dueList(String what, RepairDuty group, int... list) {
        for (int rank = 0; rank < list.length; rank++) {
            Checks.due(what + ", rank " + rank, group.duty(rank), list[rank]);
        }
        Checks.due(what + ", no rank " + list.length, group.duty(list.length), Groups.NONE);
    }

    // Of these lots the upper 16 bits are 32768 or more at five places of each list.
    private static void lotsAreNotNegative() {
        Checks.sentence("NUMBERS", "the lot is the upper 16 bits of s, as a number from 0 on, modulo m");
        RepairDuty group = Edges.tenDrawn();
        Checks.due("seed", group.seed(), -727597024);
        dueList("round 1", group, 2, 8, 6, 9, 7, 1, 5, 3, 4, 0);
        Groups.drawn(group, 31, 32);
        Checks.due("seed", group.seed(), 1621097010);
        dueList("round 2", group, 5, 7, 2, 6, 8, 4, 3, 9, 1, 0);
    }

    // Weights 2, 3 and 4: the lots 0 and 1 draw member 0, from 2 to 4 member 1, from 5 to 8 member 2.
    private static void lotsAtTheEdges() {
        Checks.sentence("THE LIST", "the one at which the sum of the weights so far, its own included, is first "
            + "greater than the lot comes to the list next");
        int[][] due = {{25, 0, 1, 2}, {5, 0, 1, 2}, {4, 1, 2, 0}, {8, 1, 2, 0}, {24, 2, 0, 1}, {9, 2, 1, 0}};
        for (int[] row : due) {
            RepairDuty group = new RepairDuty();
            for (int weight = 2; weight <= 4; weight++) {
                group.join(weight, 0);
            }
            group.set(2, 1);
            Groups.commitAndReveal(group, 0, row[0]);
            group.draw();
            dueList("secret " + row[0], group, row[1], row[2], row[3]);
        }
    }

    private static void noMemberToCommit() {
        Checks.sentence("Promise 9", "BAD if there is no such member");
        Edges.refused("no members", Edges::fresh, group -> group.commit(0, 1), Groups.BAD);
        for (int member : Edges.outside(0, 1)) {
            Edges.refused("commit " + member, Edges::pair, group -> group.commit(member, 1), Groups.BAD);
        }
        for (int member : Edges.outside(0, 9)) {
            Edges.refused("of ten, " + member, Edges::tenDrawn, group -> group.commit(member, 1), Groups.BAD);
        }
        Edges.act("the first one", Edges::tenDrawn, group -> group.commit(0, 1), 0);
        Edges.act("the last one", Edges::tenDrawn, group -> group.commit(9, 1), 0);
    }

    private static void onlyTheLivingCommit() {
        Checks.sentence("Promise 9", "STATE if it is not living.");
        for (int stage = 0; stage <= 3; stage++) {
            Edges.Maker dead = dead(stage);
            Edges.refused("dead at stage " + stage, dead, group -> group.commit(1, Groups.mix(9)), Groups.STATE);
            Edges.act("living again", Edges.after(dead, group -> group.live(1, true)),
                group -> group.commit(1, Groups.mix(9)), stage == 0 ? 0 : 1);
        }
    }

    /** Two members, of which member 1 has died at a stage of the lottery. */
    private static Edges.Maker dead(int stage) {
        return Edges.after(atStage(stage), group -> group.live(1, false));
    }

    private static Edges.Maker atStage(int stage) {
        return () -> {
            RepairDuty group = Edges.pair();
            if (stage > 0) {
                group.commit(1, Groups.mix(5));
            }
            if (stage > 1) {
                group.reveal(1, stage == 2 ? 5 : 1);
            }
            return group;
        };
    }

    private static void anyIntIsTold() {
        Checks.sentence("Promise 9", "told: any int, as MIX of its secret");
        for (int told : ANY_INT) {
            RepairDuty group = Edges.pair();
            Edges.act("commit " + told, Edges::pair, pair -> pair.commit(0, told), 0);
            group.commit(0, told);
            Checks.due("stage", group.member(0, 8), 1);
            Checks.due("told itself is not the secret", group.reveal(0, told), Groups.mix(told) == told ? 1 : 0);
        }
    }

    private static void committedBefore() {
        Checks.sentence("Promise 9", "Returns 1 if it had committed before, otherwise 0");
        for (int stage = 0; stage <= 3; stage++) {
            Edges.act("at stage " + stage, atStage(stage), group -> group.commit(1, Groups.mix(9)), stage == 0 ? 0 : 1);
            Edges.act("the other, at stage " + stage, atStage(stage), group -> group.commit(0, 1), 0);
            RepairDuty group = atStage(stage).make();
            group.commit(1, 1);
            Groups.drawn(group, 5, 6);
            Checks.due("in the next round", group.commit(1, 1), 0);
            Checks.due("once more", group.commit(1, 1), 1);
        }
        RepairDuty undone = atStage(1).make();
        undone.undo();
        Checks.due("after an undone one", undone.commit(1, 1), 0);
    }

    private static void revealIsGone() {
        Checks.sentence("Promise 9", "also in place of an earlier one. What was revealed is gone then.");
        for (int stage = 1; stage <= 3; stage++) {
            RepairDuty group = atStage(stage).make();
            group.commit(1, Groups.mix(9));
            Checks.due("stage", group.member(1, 8), 1);
            group.set(2, 1);
            Checks.due("no right reveal", group.draw(), Groups.STATE);
            Checks.due("the earlier secret", group.reveal(1, 5), 0);
            Checks.due("the secret of the later one", group.reveal(1, 9), 1);
            RepairDuty same = atStage(stage).make();
            same.commit(1, Groups.mix(5));
            Checks.due("stage after the same again", same.member(1, 8), 1);
            Checks.due("the same secret", same.reveal(1, 5), 1);
        }
    }

    private static void noMemberToReveal() {
        Checks.sentence("Promise 10", "BAD if there is no such member");
        Edges.refused("no members", Edges::fresh, group -> group.reveal(0, 1), Groups.BAD);
        for (int member : Edges.outside(0, 1)) {
            Edges.refused("reveal " + member, atStage(1), group -> group.reveal(member, 5), Groups.BAD);
        }
        for (int member : Edges.outside(0, 9)) {
            Edges.refused("of ten, " + member, Edges::tenDrawn, group -> group.reveal(member, 1), Groups.BAD);
        }
        Edges.Maker last = Edges.after(Edges::ten, group -> group.commit(9, Groups.mix(5)));
        Edges.act("the last one", last, group -> group.reveal(9, 5), 1);
    }

    private static void onlyTheLivingReveal() {
        Checks.sentence("Promise 10", "STATE if it is not living");
        for (int stage = 0; stage <= 3; stage++) {
            Edges.refused("dead at stage " + stage, dead(stage), group -> group.reveal(1, 5), Groups.STATE);
            Edges.refused("wrongly", dead(stage), group -> group.reveal(1, 6), Groups.STATE);
        }
        Edges.act("living again", Edges.after(dead(1), group -> group.live(1, true)), group -> group.reveal(1, 5), 1);
    }

    private static void onlyTheCommittedReveal() {
        Checks.sentence("Promise 10", "or has not committed.");
        Edges.refused("at first", Edges::pair, group -> group.reveal(1, 5), Groups.STATE);
        Edges.refused("the other has", atStage(1), group -> group.reveal(0, 5), Groups.STATE);
        Edges.refused("not in this round", Edges::tenDrawn, group -> group.reveal(0, 31), Groups.STATE);
        Edges.refused("not any more", Edges.after(atStage(1), group -> group.undo()),
            group -> group.reveal(1, 5), Groups.STATE);
        // What is told at first must not be taken for a commitment to a secret whose MIX is 0.
        Edges.refused("a secret with MIX 0", Edges::pair, group -> group.reveal(1, secretOf(0)), Groups.STATE);
        for (int stage = 1; stage <= 3; stage++) {
            Edges.act("at stage " + stage, atStage(stage), group -> group.reveal(1, 5), 1);
        }
    }

    /** The secret with this MIX: each step of MIX is undone. */
    private static int secretOf(int mixed) {
        int inverse = 1;
        for (int i = 0; i < 5; i++) {
            inverse *= 2 - 1103515245 * inverse;
        }
        int x = (mixed - 12345) * inverse;
        x ^= x >>> 15 ^ x >>> 30;
        return (x - 12345) * inverse;
    }

    private static void anyIntIsRevealed() {
        Checks.sentence("THE LOTTERY", "the secret is right if its MIX is what was told");
        for (int secret : new int[] {0, -1, Integer.MIN_VALUE, Integer.MAX_VALUE, secretOf(0), secretOf(-1),
            secretOf(Integer.MIN_VALUE), secretOf(Integer.MAX_VALUE)}) {
            RepairDuty group = Edges.pair();
            group.commit(1, group.mix(secret));
            Checks.due("one too small", group.reveal(1, secret - 1), 0);
            Checks.due("one too great", group.reveal(1, secret + 1), 0);
            Checks.due("another sign", group.reveal(1, secret ^ Integer.MIN_VALUE), 0);
            Checks.due("the secret " + secret, group.reveal(1, secret), 1);
            group.set(2, 1);
            group.draw();
            Checks.due("seed", group.seed(), Groups.mix(1 ^ secret));
        }
        Checks.due("a secret with MIX 0", new RepairDuty().mix(secretOf(0)), 0);
    }

    private static void inPlaceOfAnEarlierReveal() {
        Checks.sentence("Promise 10", "Reveals a secret, also in place of an earlier reveal.");
        for (int stage = 1; stage <= 3; stage++) {
            Edges.act("right at stage " + stage, atStage(stage), group -> group.reveal(1, 5), 1);
            Edges.act("wrong at stage " + stage, atStage(stage), group -> group.reveal(1, 1), 0);
            RepairDuty group = atStage(stage).make();
            group.reveal(1, 1);
            Checks.due("stage of the wrong one", group.member(1, 8), 3);
            group.set(2, 1);
            Checks.due("no right one is left", group.draw(), Groups.STATE);
            group.reveal(1, 5);
            Checks.due("stage of the right one", group.member(1, 8), 2);
            Checks.due("it is enough", group.draw(), 1);
            Checks.due("seed", group.seed(), Groups.mix(1 ^ 5));
        }
    }

    private static Edges.Maker revealed(int rightly, int least) {
        return () -> {
            RepairDuty group = Edges.ten();
            for (int member = 0; member < 10; member++) {
                group.commit(member, Groups.mix(5));
                group.reveal(member, member < rightly ? 5 : 1);
            }
            group.set(2, least);
            return group;
        };
    }

    private static void tooFewReveals() {
        Checks.sentence("Promise 11", "STATE if there are fewer right reveals than the setting says.");
        Edges.refused("no members", Edges::fresh, group -> group.draw(), Groups.STATE);
        Edges.refused("nothing told", Edges::pair, group -> group.draw(), Groups.STATE);
        Edges.refused("nothing told in this round", Edges::tenDrawn, group -> group.draw(), Groups.STATE);
        Edges.refused("one of two", Edges::busy, group -> group.draw(), Groups.STATE);
        for (int least = 1; least <= 10; least++) {
            Edges.refused(least - 1 + " of " + least, revealed(least - 1, least), group -> group.draw(), Groups.STATE);
        }
        Edges.Maker committed = Edges.after(atStage(1), group -> group.set(2, 1));
        Edges.refused("a commitment is no reveal", committed, group -> group.draw(), Groups.STATE);
        Edges.refused("none at all with the least setting", Edges.after(Edges::fresh, group -> group.set(2, 1)),
            group -> group.draw(), Groups.STATE);
    }

    private static void leastNumberOfReveals() {
        Checks.sentence("SETTINGS", "2 the least number of reveals, 1 to 10 (2)");
        for (int least = 1; least <= 10; least++) {
            Edges.act(least + " of " + least, revealed(least, least), group -> group.draw(), 1);
        }
        Edges.act("ten of one", revealed(10, 1), group -> group.draw(), 1);
        Edges.act("two of the first two", Edges.after(Edges::pair, group -> Groups.commitAndReveal(group, 0, 5),
            group -> Groups.commitAndReveal(group, 1, 5)), group -> group.draw(), 1);
    }

    private static void deadRevealsCount() {
        Checks.sentence("Promise 11", "right reveals");
        Edges.Maker dead = Edges.after(revealed(2, 2), group -> group.live(0, false),
            group -> group.live(1, false));
        Edges.act("a reveal of a dead one stays", dead, group -> group.draw(), 1);
        int first = Groups.list(Groups.mix(Groups.mix(1 ^ 5) ^ 5), 1, 2, 3, 4, 5, 6, 7, 8, 9, 1)[0];
        Edges.told("so it does for ifLeft", dead, group -> group.ifLeft(0, 0), first);
        Edges.told("one of them left out", dead, group -> group.ifLeft(1, 0), Groups.STATE);
        RepairDuty group = dead.make();
        group.draw();
        Checks.due("seed", group.seed(), Groups.mix(Groups.mix(1 ^ 5) ^ 5));
    }

    private static void roundsGrow() {
        Checks.sentence("THE LOTTERY", "the round number grows by 1 (0 at first)");
        RepairDuty group = Edges.pair();
        Checks.due("at first", group.about(6), 0);
        for (int round = 1; round <= 60; round++) {
            Groups.commitAndReveal(group, 0, round);
            Groups.commitAndReveal(group, 1, round);
            Checks.due("draw", group.draw(), round);
            Checks.due("round", group.about(6), round);
        }
        Checks.due("undo", group.undo(), 3);
        Checks.due("round", group.about(6), 59);
        Checks.due("draw again", group.draw(), 60);
    }

    private static void seedsOfRounds() {
        Checks.sentence("THE LOTTERY", "the seed of the round is found from s = the round number as it is then");
        RepairDuty group = Edges.pair();
        group.set(2, 1);
        for (int round = 1; round <= 9; round++) {
            Groups.commitAndReveal(group, 1, 1000);
            group.draw();
            Checks.due("seed of round " + round, group.seed(), Groups.mix(round ^ 1000));
        }
    }

    private static void seedOfOneAndOfTen() {
        Checks.sentence("THE LOTTERY", "for each member with a right reveal, in ascending order, s becomes MIX of "
            + "(s XOR its secret)");
        for (int set = 1; set < 1024; set += 31) {
            RepairDuty group = Edges.ten();
            group.set(2, 1);
            int seed = 1;
            for (int member = 9; member >= 0; member--) {
                group.commit(member, Groups.mix(100 * member));
                group.reveal(member, (set >> member & 1) == 1 ? 100 * member : -1);
            }
            for (int member = 0; member < 10; member++) {
                seed = (set >> member & 1) == 1 ? Groups.mix(seed ^ 100 * member) : seed;
            }
            group.draw();
            Checks.due("seed of the set " + set, group.seed(), seed);
        }
    }

    private static void whoIsFined() {
        Checks.sentence("THE LOTTERY", "Each member that has committed, but not rightly revealed, loses the fine from "
            + "its credits.");
        for (int fine : new int[] {0, 3, 100}) {
            RepairDuty group = revealed(2, 2).make();
            group.set(4, fine);
            group.commit(2, 1);
            group.commit(9, 1);
            group.live(3, false);
            group.live(9, false);
            group.draw();
            for (int member = 0; member < 10; member++) {
                Checks.due("credits of " + member, group.member(member, 3), member < 2 ? 0 : -fine);
            }
            Groups.drawn(group, 1, 1);
            Checks.due("nobody is fined twice", group.member(2, 3), -fine);
            Checks.due("nor for nothing", group.member(0, 3), 0);
        }
    }

    private static void allIsGoneThen() {
        Checks.sentence("THE LOTTERY", "All commitments and reveals are gone then.");
        RepairDuty group = revealed(4, 2).make();
        group.commit(9, 1);
        group.live(8, false);
        group.draw();
        for (int member = 0; member < 10; member++) {
            Checks.due("stage of " + member, group.member(member, 8), 0);
            Checks.due("reveal of " + member, group.reveal(member, 5), Groups.STATE);
        }
        group.live(8, true);
        Checks.due("one that was dead", group.reveal(8, 5), Groups.STATE);
        group.set(2, 1);
        Checks.due("no reveals", group.draw(), Groups.STATE);
        Checks.due("none for ifLeft", group.ifLeft(0, 0), Groups.STATE);
    }

    private static void seedBeforeTheFirstRound() {
        Checks.sentence("Promise 12", "Returns the seed as a long; -4611686018427387905 before the first round.");
        Edges.told("new", Edges::fresh, group -> group.seed(), -4611686018427387905L);
        Edges.told("reveals alone", revealed(10, 10), group -> group.seed(), -4611686018427387905L);
        Edges.told("a refused draw", Edges.after(Edges::pair, group -> group.draw()), group -> group.seed(),
            -4611686018427387905L);
        Edges.told("an undone draw", Edges.after(Edges::tenDrawn, group -> group.undo()), group -> group.seed(),
            -4611686018427387905L);
        Edges.told("a negative seed", Edges::tenDrawn, group -> group.seed(), -727597024L);
        Edges.told("a positive seed", Edges.after(Edges::tenDrawn, group -> Groups.drawn(group, 31, 32).about(6)),
            group -> group.seed(), 1621097010L);
        for (int due : new int[] {0, -1, Integer.MIN_VALUE, Integer.MAX_VALUE}) {
            RepairDuty group = Edges.pair();
            group.set(2, 1);
            Groups.commitAndReveal(group, 0, secretOf(due) ^ 1);
            group.draw();
            Checks.due("a seed as a long", group.seed(), (long) due);
        }
    }

    private static void rankIsThePlace() {
        Checks.sentence("THE LIST", "The rank of a member is its place on the list, from 0.");
        int[] list = {2, 8, 6, 9, 7, 1, 5, 3, 4, 0};
        RepairDuty group = Edges.tenDrawn();
        for (int rank = 0; rank < 10; rank++) {
            Checks.due("rank of " + list[rank], group.member(list[rank], 4), rank);
        }
        group.live(2, false);
        group.change(0, 0, 9);
        Checks.due("rank of a dead one", group.member(2, 4), 0);
        Checks.due("rank after a change", group.member(0, 4), 9);
    }

    private static void ranksOfTheList() {
        Checks.sentence("Promise 13", "BAD if rank is negative; NONE if there are not so many on the list.");
        for (int rank : new int[] {-1, -2, -256, -65536, Integer.MIN_VALUE}) {
            Edges.told("new, " + rank, Edges::fresh, group -> group.duty(rank), Groups.BAD);
            Edges.told("ten, " + rank, Edges::tenDrawn, group -> group.duty(rank), Groups.BAD);
        }
        for (int rank : new int[] {0, 1, 9, 10, 256, Integer.MAX_VALUE}) {
            Edges.told("new, " + rank, Edges::fresh, group -> group.duty(rank), Groups.NONE);
            Edges.told("before the first round, " + rank, Edges::ten, group -> group.duty(rank), Groups.NONE);
        }
        for (int rank : new int[] {5, 6, 10, 256, 65536, Integer.MAX_VALUE}) {
            Edges.told("busy, " + rank, Edges::busy, group -> group.duty(rank), Groups.NONE);
        }
        Edges.told("rank 0 of ten", Edges::tenDrawn, group -> group.duty(0), 2);
        Edges.told("rank 9 of ten", Edges::tenDrawn, group -> group.duty(9), 0);
        Edges.told("rank 10 of ten", Edges::tenDrawn, group -> group.duty(10), Groups.NONE);
    }

    private static void listOfOneAndOfTen() {
        Checks.sentence("THE LIST", "as long as there are members that are not on the list");
        for (int count = 1; count <= 10; count++) {
            RepairDuty group = new RepairDuty();
            int[] weights = new int[count];
            for (int member = 0; member < count; member++) {
                weights[member] = 9 - member * 2 % 9;
                group.join(weights[member], 0);
            }
            group.set(2, 1);
            Groups.commitAndReveal(group, count - 1, 77);
            group.draw();
            dueList("a list of " + count, group, Groups.list(Groups.mix(1 ^ 77), weights));
        }
    }

    private static void listTakesTheDeadIn() {
        Checks.sentence("THE LIST", "is drawn from all members (living or not) that there are at the draw");
        RepairDuty group = revealed(2, 2).make();
        for (int member = 0; member < 10; member++) {
            group.live(member, false);
        }
        Checks.due("all are dead", group.draw(), 1);
        dueList("a list of the dead", group, Groups.list((int) group.seed(), 1, 2, 3, 4, 5, 6, 7, 8, 9, 1));
        RepairDuty changed = revealed(2, 2).make();
        changed.change(9, 0, 9);
        changed.change(0, 0, 7);
        changed.draw();
        dueList("weights as they are then", changed, Groups.list((int) changed.seed(), 7, 2, 3, 4, 5, 6, 7, 8, 9, 9));
    }

    private static void laterMembers() {
        Checks.sentence("THE LIST", "Members that come later have no rank until the next draw.");
        RepairDuty group = Groups.drawn(Edges.nine(), 3, 4);
        group.join(9, 5);
        Checks.due("its rank", group.member(9, 4), Groups.NONE);
        Checks.due("no duty", group.duty(9), Groups.NONE);
        group.change(9, 0, 8);
        group.live(9, true);
        Checks.due("its rank then", group.member(9, 4), Groups.NONE);
        Groups.drawn(group, 3, 4);
        dueList("the next list", group, Groups.list((int) group.seed(), 1, 2, 3, 4, 5, 6, 7, 8, 9, 8));
        Checks.due("undo of the draw", group.undo(), 3);
        Checks.due("its rank again", group.member(9, 4), Groups.NONE);
    }

    private static void setsOfIfLeft() {
        Checks.sentence("Promise 14", "BAD if left is not 0 to 1023");
        for (int left : Edges.outside(0, 1023)) {
            Edges.told("left " + left, Edges::fresh, group -> group.ifLeft(left, 0), Groups.BAD);
            Edges.told("left " + left, revealed(10, 1), group -> group.ifLeft(left, 0), Groups.BAD);
        }
        int[] all = Groups.list(seedWithout(0), 1, 2, 3, 4, 5, 6, 7, 8, 9, 1);
        int[] first = Groups.list(seedWithout(1022), 1, 2, 3, 4, 5, 6, 7, 8, 9, 1);
        for (int rank = 0; rank < 10; rank++) {
            int place = rank;
            Edges.told("left 0", revealed(10, 1), group -> group.ifLeft(0, place), all[rank]);
            Edges.told("left 1022", revealed(10, 1), group -> group.ifLeft(1022, place), first[rank]);
        }
        Edges.told("left 1023", revealed(10, 1), group -> group.ifLeft(1023, 0), Groups.STATE);
        Edges.told("some that there are not", Edges.after(atStage(2), group -> group.set(2, 1)),
            group -> group.ifLeft(1021, 1), Groups.list(Groups.mix(1 ^ 5), 1, 2)[1]);
    }

    /** The seed of the first round of ten members with the secret 5, but those left out. */
    private static int seedWithout(int left) {
        int seed = 1;
        for (int member = 0; member < 10; member++) {
            seed = (left >> member & 1) == 0 ? Groups.mix(seed ^ 5) : seed;
        }
        return seed;
    }

    private static void ranksOfIfLeft() {
        Checks.sentence("Promise 14", "or rank is negative; STATE if there would be fewer right reveals than the "
            + "setting says; NONE if there are not so many members.");
        for (int rank : new int[] {-1, -2, -256, Integer.MIN_VALUE}) {
            Edges.told("rank " + rank, revealed(10, 1), group -> group.ifLeft(0, rank), Groups.BAD);
            Edges.told("rank " + rank + " and too few", Edges::fresh, group -> group.ifLeft(0, rank), Groups.BAD);
            Edges.told("rank " + rank + " and all left", revealed(10, 1),
                group -> group.ifLeft(1023, rank), Groups.BAD);
        }
        for (int rank : new int[] {10, 11, 256, 65536, Integer.MAX_VALUE}) {
            Edges.told("rank " + rank, revealed(10, 1), group -> group.ifLeft(0, rank), Groups.NONE);
            Edges.told("rank " + rank + " and too few", revealed(1, 2), group -> group.ifLeft(0, rank), Groups.STATE);
        }
        Edges.Maker two = Edges.after(atStage(2), group -> group.set(2, 1));
        Edges.told("rank 1 of two", two, group -> group.ifLeft(0, 1), Groups.list(Groups.mix(1 ^ 5), 1, 2)[1]);
        Edges.told("rank 2 of two", two, group -> group.ifLeft(0, 2), Groups.NONE);
        Edges.Maker later = Edges.after(Edges::busy, group -> group.set(2, 1), group -> group.join(1, 1));
        RepairDuty drawn = later.make();
        drawn.draw();
        Edges.told("one that came after the last draw", later, group -> group.ifLeft(0, 5), drawn.duty(5));
        Edges.told("no seventh", later, group -> group.ifLeft(0, 6), Groups.NONE);
    }

    private static void tooFewIfLeft() {
        Checks.sentence("Promise 14", "STATE if there would be fewer right reveals than the setting says");
        Edges.told("no members", Edges::fresh, group -> group.ifLeft(0, 0), Groups.STATE);
        Edges.told("nothing told", Edges::pair, group -> group.ifLeft(0, 0), Groups.STATE);
        for (int least = 1; least <= 9; least++) {
            int left = (1 << 9 - least) - 1;
            int due = Groups.list(seedWithout(left | 512), 1, 2, 3, 4, 5, 6, 7, 8, 9, 1)[0];
            Edges.told("just enough of " + least, revealed(9, least), group -> group.ifLeft(left, 0), due);
            Edges.told("wrong ones left out", revealed(9, least), group -> group.ifLeft(left | 512, 0), due);
            Edges.told("one too few of " + least, revealed(9, least),
                group -> group.ifLeft(left | 256, 0), Groups.STATE);
        }
    }

    private static void ifLeftIsTheNextDraw() {
        Checks.sentence("Promise 14", "Returns the member that the next draw() would put at this rank");
        for (int round = 0; round < 5; round++) {
            int rounds = round;
            Edges.Maker maker = () -> {
                RepairDuty group = Edges.ten();
                for (int i = 0; i < rounds; i++) {
                    Groups.drawn(group, i, i);
                }
                Groups.commitAndReveal(group, 0, 70 + rounds);
                Groups.commitAndReveal(group, 9, 80 + rounds);
                return group;
            };
            RepairDuty drawn = maker.make();
            drawn.draw();
            for (int rank = 0; rank < 10; rank++) {
                int place = rank;
                Edges.told("rank " + rank, maker, group -> group.ifLeft(0, place), drawn.duty(rank));
            }
        }
    }
}
