/** Promises 1 to 7, sentence by sentence: the first and the last that is allowed, and the first that is not. */
public final class EdgesOfMembersTest {
    private static final int[] INITIAL = {100, 50, 2, 5, 3};
    private static final int[] LOWEST = {1, 0, 1, 0, 0};
    private static final int[] HIGHEST = {1000, 500, 10, 100, 100};

    public static void main(String[] args) {
        aNewObject();
        objectsAreApart();
        weightsOfJoin();
        positionsOfJoin();
        numbersOfMembers();
        fullGroup();
        joinOfAMember();
        noMemberToChange();
        whatToChange();
        weightsOfChange();
        positionsOfChange();
        noMemberToLive();
        livingBefore();
        commitmentStays();
        noMemberToTellOf();
        whatToTellOfAMember();
        aMemberAtFirst();
        creditsBelowNull();
        ranks();
        blocksLost();
        repairsAndDuties();
        stages();
        settingsAtFirst();
        rangesOfSettings();
        noSetting();
        whatToTellOf();
        countsOfTheGroup();
        Checks.end();
    }

    private static void aNewObject() {
        Checks.sentence("Promise 1", "Creates a group without members, before the first round.");
        RepairDuty group = new RepairDuty();
        Checks.due("members", group.about(5), 0);
        Checks.due("round", group.about(6), 0);
        Checks.due("repairs", group.about(7), 0);
        Checks.due("questions", group.about(8), 0);
        Checks.due("silent ones", group.about(9), 0);
        Checks.due("member 0", group.member(0, 0), Groups.BAD);
        Checks.due("seed", group.seed(), Groups.NO_SEED);
        Checks.due("list", group.duty(0), Groups.NONE);
        Checks.due("past", group.past(0, 0), Groups.NONE);
        Checks.due("why 0", group.why(0), 1);
        Checks.due("why 199", group.why(199), 1);
        Checks.due("silence", (double) group.silence(), 0.0);
        Checks.due("best wait", group.bestWait(), Groups.NONE);
        Checks.due("buffer", group.clear(), 0);
        Checks.due("history", group.undo(), Groups.NONE);
    }

    private static void objectsAreApart() {
        Checks.sentence("Promise 1", "Creates a group without members");
        RepairDuty first = Edges.busy();
        long print = first.fingerprint();
        RepairDuty second = new RepairDuty();
        Checks.due("members of the second one", second.about(5), 0);
        second.join(1, 1);
        second.set(0, 1);
        second.type(65);
        second.undo();
        Checks.due("the first one stays", first.fingerprint(), print);
        Checks.due("so does its buffer", first.clear(), 3);
        Checks.due("so does its history", first.undo(), 3);
    }

    private static void weightsOfJoin() {
        Checks.sentence("Promise 2", "weight: 1 to 9");
        for (int weight : new int[] {1, 9}) {
            RepairDuty group = new RepairDuty();
            Checks.due("join " + weight, group.join(weight, 7), 0);
            Checks.due("its weight", group.member(0, 0), weight);
        }
        for (int weight : Edges.outside(1, 9)) {
            Edges.refusedEverywhere("join " + weight + " 7", group -> group.join(weight, 7), Groups.BAD);
        }
    }

    private static void positionsOfJoin() {
        Checks.sentence("Promise 2", "position: 0 to 1000");
        for (int position : new int[] {0, 1000}) {
            RepairDuty group = new RepairDuty();
            Checks.due("join at " + position, group.join(3, position), 0);
            Checks.due("its position", group.member(0, 1), position);
        }
        for (int position : Edges.outside(0, 1000)) {
            Edges.refusedEverywhere("join 3 " + position, group -> group.join(3, position), Groups.BAD);
        }
    }

    private static void numbersOfMembers() {
        Checks.sentence("MEMBERS", "There are at most 10 members, numbered from 0.");
        RepairDuty group = new RepairDuty();
        for (int number = 0; number < 10; number++) {
            Checks.due("join", group.join(9 - number % 9, 1000 - number), number);
            Checks.due("members", group.about(5), number + 1);
            Checks.due("its weight", group.member(number, 0), 9 - number % 9);
            Checks.due("its position", group.member(number, 1), 1000 - number);
            Checks.due("no next one", group.member(number + 1, 0), Groups.BAD);
        }
        Checks.due("the first one's weight", group.member(0, 0), 9);
        Checks.due("the first one's position", group.member(0, 1), 1000);
    }

    private static void fullGroup() {
        Checks.sentence("Promise 2", "FULL if there are 10 members.");
        Edges.act("the tenth", Edges::nine, group -> group.join(1, 0), 9);
        Edges.refused("an eleventh", Edges::ten, group -> group.join(1, 0), Groups.FULL);
        Edges.refused("an eleventh after a draw", Edges::tenDrawn, group -> group.join(9, 1000), Groups.FULL);
        Edges.refused("an eleventh with a dead one", Edges.after(Edges::ten, group -> group.live(4, false)),
            group -> group.join(1, 0), Groups.FULL);
        RepairDuty group = Edges.ten();
        group.undo();
        Checks.due("a tenth in place of the one undone", group.join(1, 0), 9);
        Checks.due("and no more", group.join(1, 0), Groups.FULL);
        Checks.sentence("Promise 2", "BAD if an argument is not in its range; FULL if there are 10 members.");
        Edges.refused("both, by the weight", Edges::ten, ten -> ten.join(0, 0), Groups.BAD);
        Edges.refused("both, by the position", Edges::ten, ten -> ten.join(1, 1001), Groups.BAD);
    }

    private static void joinOfAMember() {
        Checks.sentence("Promise 2", "Adds a member. This is an act.");
        Edges.act("the first one", Edges::fresh, group -> group.join(1, 0), 0);
        Edges.act("the third one", Edges::pair, group -> group.join(9, 1000), 2);
        Edges.act("the sixth one", Edges::busy, group -> group.join(5, 5), 5);
    }

    private static void noMemberToChange() {
        Checks.sentence("Promise 3", "BAD if there is no such member");
        Edges.refused("no members", Edges::fresh, group -> group.change(0, 0, 1), Groups.BAD);
        for (int member : Edges.outside(0, 1)) {
            Edges.refused("weight of " + member, Edges::pair, group -> group.change(member, 0, 1), Groups.BAD);
            Edges.refused("position of " + member, Edges::pair, group -> group.change(member, 1, 1), Groups.BAD);
        }
        for (int member : Edges.outside(0, 9)) {
            Edges.refused("of ten, " + member, Edges::tenDrawn, group -> group.change(member, 0, 1), Groups.BAD);
        }
        Edges.act("the last of two", Edges::pair, group -> group.change(1, 0, 7), 2);
        Edges.act("the first of two", Edges::pair, group -> group.change(0, 0, 7), 1);
        Edges.act("the last of ten", Edges::ten, group -> group.change(9, 1, 7), 900);
    }

    private static void whatToChange() {
        Checks.sentence("Promise 3", "what: 0 its weight, 1 its position");
        for (int what : Edges.outside(0, 1)) {
            Edges.refusedEverywhere("change what " + what, group -> group.change(0, what, 5), Groups.BAD);
        }
        RepairDuty group = Edges.pair();
        group.change(0, 0, 5);
        group.change(1, 1, 6);
        int[] due = {5, 20, 2, 6};
        for (int i = 0; i < due.length; i++) {
            Checks.due("number " + i % 2 + " of " + i / 2, group.member(i / 2, i % 2), due[i]);
        }
    }

    private static void weightsOfChange() {
        Checks.sentence("Promise 3", "value: 1 to 9");
        for (int weight : new int[] {1, 9}) {
            Edges.act("weight " + weight, Edges::pair, group -> group.change(1, 0, weight), 2);
            RepairDuty group = Edges.pair();
            group.change(1, 0, weight);
            Checks.due("weight then", group.member(1, 0), weight);
            Checks.due("the previous value", group.change(1, 0, 4), weight);
        }
        for (int weight : Edges.outside(1, 9)) {
            Edges.refusedEverywhere("weight " + weight, group -> group.change(1, 0, weight), Groups.BAD);
        }
        Edges.refused("a position as a weight", Edges::pair, group -> group.change(1, 0, 1000), Groups.BAD);
    }

    private static void positionsOfChange() {
        Checks.sentence("Promise 3", "for the position 0 to 1000");
        for (int position : new int[] {0, 10, 1000}) {
            Edges.act("position " + position, Edges::pair, group -> group.change(0, 1, position), 20);
            RepairDuty group = Edges.pair();
            group.change(0, 1, position);
            Checks.due("position then", group.member(0, 1), position);
            Checks.due("the previous value", group.change(0, 1, 4), position);
        }
        for (int position : Edges.outside(0, 1000)) {
            Edges.refusedEverywhere("position " + position, group -> group.change(0, 1, position), Groups.BAD);
        }
    }

    private static void noMemberToLive() {
        Checks.sentence("Promise 4", "BAD if there is no such member.");
        Edges.refused("no members", Edges::fresh, group -> group.live(0, true), Groups.BAD);
        for (int member : Edges.outside(0, 1)) {
            Edges.refused("dies " + member, Edges::pair, group -> group.live(member, false), Groups.BAD);
            Edges.refused("lives " + member, Edges::pair, group -> group.live(member, true), Groups.BAD);
        }
        for (int member : Edges.outside(0, 9)) {
            Edges.refused("of ten, " + member, Edges::tenDrawn, group -> group.live(member, false), Groups.BAD);
        }
        RepairDuty group = Edges.ten();
        Checks.due("the last one dies", group.live(9, false), 1);
        Checks.due("the first one dies", group.live(0, false), 1);
        for (int member = 0; member < 10; member++) {
            Checks.due("lives " + member, group.member(member, 2), member % 9 == 0 ? 0 : 1);
        }
    }

    private static void livingBefore() {
        Checks.sentence("Promise 4", "Returns 1 if it was living before, otherwise 0");
        Edges.act("dies", Edges::pair, group -> group.live(1, false), 1);
        Edges.idleAct("lives on", Edges::pair, group -> group.live(1, true), 1);
        Edges.Maker dead = Edges.after(Edges::pair, group -> group.live(1, false));
        Edges.idleAct("stays dead", dead, group -> group.live(1, false), 0);
        Edges.act("lives again", dead, group -> group.live(1, true), 0);
        Edges.Maker alone = Edges.after(dead, group -> group.live(0, false));
        Edges.act("all are dead", alone, group -> group.live(0, true), 0);
        Checks.due("the last one is dead", alone.make().member(0, 2), 0);
    }

    private static void commitmentStays() {
        Checks.sentence("Promise 4", "A commitment and a reveal of it stay.");
        for (int stage = 0; stage <= 3; stage++) {
            RepairDuty group = Edges.pair();
            bringTo(group, 1, stage);
            group.live(1, false);
            Checks.due("stage when dead", group.member(1, 8), stage);
            group.live(1, true);
            Checks.due("stage when it lives again", group.member(1, 8), stage);
            Checks.due("the secret is as before", group.reveal(1, 5), stage == 0 ? Groups.STATE : 1);
        }
    }

    private static void bringTo(RepairDuty group, int member, int stage) {
        if (stage > 0) {
            group.commit(member, Groups.mix(5));
        }
        if (stage > 1) {
            group.reveal(member, stage == 2 ? 5 : 1);
        }
    }

    private static void noMemberToTellOf() {
        Checks.sentence("Promise 5", "BAD if there is no such member");
        for (int what = 0; what <= 8; what++) {
            int number = what;
            Edges.told("no members", Edges::fresh, group -> group.member(0, number), Groups.BAD);
            for (int member : Edges.outside(0, 1)) {
                Edges.told("number " + number + " of " + member, Edges::pair,
                    group -> group.member(member, number), Groups.BAD);
            }
            Checks.due("an eleventh", Edges.tenDrawn().member(10, number), Groups.BAD);
        }
    }

    private static void whatToTellOfAMember() {
        Checks.sentence("Promise 5", "or what is not in its range.");
        for (int what : Edges.outside(0, 8)) {
            Edges.told("what " + what, Edges::pair, group -> group.member(1, what), Groups.BAD);
            Edges.told("what " + what, Edges::busy, group -> group.member(4, what), Groups.BAD);
        }
        Edges.told("the first number", Edges::pair, group -> group.member(1, 0), 2);
        Edges.told("the last number", Edges::busy, group -> group.member(group.duty(1), 8), 2);
    }

    private static void aMemberAtFirst() {
        Checks.sentence("MEMBERS", "is living or not (living at first), and has credits (0 at first");
        int[] due = {9, 1000, 1, 0, Groups.NONE, 0, 0, 0, 0};
        for (Edges.Maker maker : new Edges.Maker[] {Edges::fresh, Edges::pair, Edges::nine, Edges::busy}) {
            RepairDuty group = maker.make();
            int member = group.join(9, 1000);
            for (int what = 0; what < due.length; what++) {
                Checks.due("number " + what, group.member(member, what), due[what]);
            }
        }
        RepairDuty group = Edges.nine();
        group.live(8, false);
        group.undo();
        group.lose(8, 5);
        group.undo();
        group.undo();
        Checks.due("in place of one undone", group.join(9, 1000), 8);
        for (int what = 0; what < due.length; what++) {
            Checks.due("number " + what, group.member(8, what), due[what]);
        }
    }

    private static void creditsBelowNull() {
        Checks.sentence("MEMBERS", "they can be less than 0");
        RepairDuty group = Edges.pair();
        group.join(1, 1);
        group.set(4, 100);
        for (int round = 1; round <= 5; round++) {
            group.commit(2, 1);
            Groups.drawn(group, round, round);
            Checks.due("credits", group.member(2, 3), -100 * round);
        }
        group.set(4, 3);
        group.commit(2, 1);
        Groups.drawn(group, 1, 1);
        Checks.due("credits", group.member(2, 3), -503);
    }

    private static void ranks() {
        Checks.sentence("Promise 5", "4 its rank (NONE if it has none)");
        RepairDuty group = Edges.nine();
        for (int member = 0; member < 9; member++) {
            Checks.due("before the first round", group.member(member, 4), Groups.NONE);
        }
        Groups.drawn(group, 3, 4);
        group.join(1, 1);
        Checks.due("one that came later", group.member(9, 4), Groups.NONE);
        int seen = 0;
        for (int member = 0; member < 9; member++) {
            int rank = group.member(member, 4);
            Checks.due("the member of its rank", group.duty(rank), member);
            seen |= 1 << rank;
        }
        Checks.due("each rank from 0 to 8", seen, 511);
        Groups.drawn(group, 3, 4);
        for (int rank = 0; rank < 10; rank++) {
            Checks.due("rank of ten", group.member(group.duty(rank), 4), rank);
        }
        Checks.due("undo of the second draw", group.undo(), 3);
        Checks.due("no rank again", group.member(9, 4), Groups.NONE);
    }

    private static void blocksLost() {
        Checks.sentence("Promise 5", "5 the number of blocks that it has lost and not got");
        RepairDuty group = Edges.pair();
        for (int block = 0; block < 200; block++) {
            Checks.due("lost by 1", group.member(1, 5), block);
            group.lose(1, block);
        }
        Checks.due("all are lost", group.member(1, 5), 200);
        Checks.due("none is lost by 0", group.member(0, 5), 0);
        group.lose(1, 0);
        Checks.due("once more the same", group.member(1, 5), 200);
        Groups.drawn(group, 1, 2);
        group.repair(199);
        Checks.due("one got", group.member(1, 5), 199);
        group.repairAll();
        Checks.due("all got", group.member(1, 5), 0);
        group.undo();
        Checks.due("199 again", group.member(1, 5), 199);
    }

    private static void repairsAndDuties() {
        Checks.sentence("Promise 5", "6 how many repairs it has made, 7 how many duties it has missed");
        RepairDuty group = Groups.drawn(Groups.at(0, 0, 0), 1, 2);
        int dead = group.duty(0);
        int repairer = group.duty(1);
        int loser = group.duty(2);
        group.live(dead, false);
        for (int block = 0; block < 30; block++) {
            Checks.due("repairs made", group.member(repairer, 6), block);
            Checks.due("duties missed", group.member(dead, 7), block);
            group.lose(loser, block);
            group.repair(block);
        }
        int[] members = {dead, repairer, loser};
        int[] made = {0, 30, 0};
        int[] missed = {30, 0, 0};
        for (int i = 0; i < members.length; i++) {
            Checks.due("repairs made", group.member(members[i], 6), made[i]);
            Checks.due("duties missed", group.member(members[i], 7), missed[i]);
        }
        group.commit(loser, 1);
        group.live(dead, true);
        group.commit(dead, Groups.mix(1));
        group.reveal(dead, 1);
        group.set(2, 1);
        group.draw();
        Checks.due("a fine of the draw is no duty", group.member(loser, 7), 0);
        Checks.due("but it is a fine", group.member(loser, 3), -3);
    }

    private static void stages() {
        Checks.sentence("Promise 5", "8 its state in the lottery: 0 nothing, 1 committed, 2 rightly revealed, "
            + "3 wrongly revealed");
        for (int stage = 0; stage <= 3; stage++) {
            RepairDuty group = Edges.ten();
            bringTo(group, 0, 3 - stage);
            bringTo(group, 9, stage);
            Checks.due("stage of 9", group.member(9, 8), stage);
            Checks.due("stage of 0", group.member(0, 8), 3 - stage);
            Checks.due("stage of 5", group.member(5, 8), 0);
            Groups.drawn(group, 1, 2);
            Checks.due("stage of 9 after the draw", group.member(9, 8), 0);
            Checks.due("stage of 0 after the draw", group.member(0, 8), 0);
        }
    }

    private static void settingsAtFirst() {
        Checks.sentence("SETTINGS", "with their ranges and initial values");
        RepairDuty group = new RepairDuty();
        for (int setting = 0; setting < 5; setting++) {
            Checks.due("setting " + setting, group.about(setting), INITIAL[setting]);
            int number = setting;
            Edges.act("set " + setting, Edges::fresh, fresh -> fresh.set(number, HIGHEST[number]), INITIAL[number]);
        }
    }

    private static void rangesOfSettings() {
        Checks.sentence("SETTINGS", "0 the wait, 1 to 1000 (100); 1 the step, 0 to 500 (50); 2 the least number of "
            + "reveals, 1 to 10 (2); 3 the reward, 0 to 100 (5); 4 the fine, 0 to 100 (3).");
        for (int i = 0; i < 5; i++) {
            int setting = i;
            for (int value : Edges.outside(LOWEST[setting], HIGHEST[setting])) {
                Edges.refused("set " + setting + " " + value, Edges::fresh,
                    group -> group.set(setting, value), Groups.BAD);
                Edges.refused("set " + setting + " " + value + ", busy", Edges::busy,
                    group -> group.set(setting, value), Groups.BAD);
            }
            RepairDuty group = new RepairDuty();
            Checks.due("set lowest", group.set(setting, LOWEST[setting]), INITIAL[setting]);
            Checks.due("about lowest", group.about(setting), LOWEST[setting]);
            Checks.due("set highest", group.set(setting, HIGHEST[setting]), LOWEST[setting]);
            Checks.due("about highest", group.about(setting), HIGHEST[setting]);
            Checks.due("set the same", group.set(setting, HIGHEST[setting]), HIGHEST[setting]);
            for (int other = 0; other < 5; other++) {
                Checks.due("about " + other, group.about(other), other == setting ? HIGHEST[other] : INITIAL[other]);
            }
        }
    }

    private static void noSetting() {
        Checks.sentence("Promise 6", "BAD if an argument is not in its range.");
        for (int setting : Edges.outside(0, 4)) {
            for (int value : new int[] {1, 5, setting}) {
                Edges.refusedEverywhere("set " + setting + " " + value, group -> group.set(setting, value), Groups.BAD);
            }
        }
        Edges.act("the first one", Edges::busy, group -> group.set(0, 5), 100);
        Edges.act("the last one", Edges::busy, group -> group.set(4, 5), 3);
    }

    private static void whatToTellOf() {
        Checks.sentence("Promise 7", "BAD if what is not in its range.");
        for (int what : Edges.outside(0, 9)) {
            Edges.told("about " + what, Edges::fresh, group -> group.about(what), Groups.BAD);
            Edges.told("about " + what, Edges::busy, group -> group.about(what), Groups.BAD);
        }
        Edges.told("the first number", Edges::busy, group -> group.about(0), 100);
        Edges.told("the last setting", Edges::busy, group -> group.about(4), 3);
        Edges.told("the number of members", Edges::busy, group -> group.about(5), 5);
        Edges.told("the last number", Edges::fresh, group -> group.about(9), 0);
    }

    private static void countsOfTheGroup() {
        Checks.sentence("Promise 7", "5 the number of members, 6 the round number, 7 the number of repairs made, "
            + "8 the number of questions asked in all repairs, 9 the number of losers that were silent in all repairs");
        RepairDuty group = Groups.drawn(Groups.at(500, 500, 500, 500), 21, 22);
        group.set(0, 1000);
        int asked = 0;
        int silent = 0;
        for (int block = 0; block < 25; block++) {
            for (int rank = 1; rank < 4; rank++) {
                group.lose(group.duty(rank), block);
            }
            group.repair(block);
            asked += Integer.bitCount(group.past(0, 3));
            silent += Integer.bitCount(group.past(0, 4));
            Checks.due("repairs", group.about(7), block + 1);
            Checks.due("questions", group.about(8), asked);
            Checks.due("silent ones", group.about(9), silent);
        }
        Checks.due("all losers asked or were silent", asked + silent, 75);
        Checks.holds("there were both", asked >= 25 && silent > 25);
        for (int round = 2; round < 6; round++) {
            Groups.drawn(group, round, round);
            Checks.due("round", group.about(6), round);
        }
        Checks.due("the repairs stay", group.about(7), 25);
        Checks.due("members", group.about(5), 4);
        group.live(0, false);
        Checks.due("dead ones are members, too", group.about(5), 4);
    }
}
