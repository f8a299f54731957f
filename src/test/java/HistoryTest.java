/** Promises 27 and 28: undo and the fingerprint. */
public final class HistoryTest {
    public static void main(String[] args) {
        fourStates();
        everyActIsUndone();
        errorsAndLooksAreNoActs();
        undoRestoresWhatIsHidden();
        undoIsNoAct();
        bufferIsNoPart();
        fingerprintOfANewObject();
        fingerprintOfAll();
        Checks.end();
    }

    private static RepairDuty full() {
        RepairDuty group = Groups.drawn(Groups.at(5, 300, 650, 1000), 31, 32);
        Groups.type(group, "3:01;60:2;198:013;8:0123");
        group.read();
        group.live(group.duty(0), false);
        group.repair(3);
        Groups.commitAndReveal(group, group.duty(1), 6);
        Groups.commitAndReveal(group, group.duty(2), 7);
        group.commit(group.duty(3), 1);
        return group;
    }

    private static void fourStates() {
        RepairDuty group = new RepairDuty();
        Checks.due("nothing to undo", group.undo(), Groups.NONE);
        for (int i = 1; i <= 9; i++) {
            group.set(0, i);
        }
        for (int left = 3; left >= 0; left--) {
            Checks.due("undo", group.undo(), left);
            Checks.due("the wait then", group.about(0), 5 + left);
        }
        Checks.due("no fifth state", group.undo(), Groups.NONE);
        Checks.due("stays as it is", group.about(0), 5);
        group.set(0, 77);
        group.set(0, 78);
        Checks.due("undo again", group.undo(), 1);
        Checks.due("the wait", group.about(0), 77);
        group.set(0, 79);
        Checks.due("undo after an act", group.undo(), 1);
        Checks.due("undo the first", group.undo(), 0);
        Checks.due("the wait", group.about(0), 5);
    }

    private static int act(RepairDuty group, int which) {
        switch (which) {
            case 0: return group.join(3, 3);
            case 1: return group.change(1, 0, 5);
            case 2: return group.change(1, 1, 5);
            case 3: return group.live(group.duty(3), false);
            case 4: return group.set(3, 9);
            case 5: return group.commit(group.duty(1), 9);
            case 6: return group.reveal(group.duty(2), 8);
            case 7: return group.draw();
            case 8: return group.lose(2, 100);
            case 9: return group.read();
            case 10: return group.repair(60);
            default: return group.repairAll();
        }
    }

    private static void everyActIsUndone() {
        for (int which = 0; which <= 11; which++) {
            RepairDuty group = full();
            Groups.type(group, "90:012");
            long before = group.fingerprint();
            Checks.holds("act " + which + " is no error", act(group, which) >= 0);
            Checks.holds("act " + which + " changes it", group.fingerprint() != before);
            Checks.due("undo of act " + which, group.undo(), 3);
            Checks.due("as before act " + which, group.fingerprint(), before);
            Checks.holds("the secrets are there", group.draw() == 2);
            RepairDuty other = full();
            other.draw();
            Checks.due("the same draw", group.fingerprint(), other.fingerprint());
        }
    }

    private static void errorsAndLooksAreNoActs() {
        RepairDuty group = full();
        long before = group.fingerprint();
        group.set(0, 42);
        group.join(0, 0);
        group.change(0, 0, 0);
        group.live(9, true);
        group.set(9, 9);
        group.commit(group.duty(0), 1);
        group.reveal(group.duty(0), 1);
        group.lose(0, 200);
        group.read();
        group.repair(150);
        group.member(0, 0);
        group.about(0);
        group.mix(0);
        group.seed();
        group.duty(0);
        group.ifLeft(0, 0);
        group.type(48);
        group.clear();
        group.lost(0, 0);
        group.look(60, 0, 0);
        group.past(0, 0);
        group.why(0);
        group.silence();
        group.bestWait();
        group.fingerprint();
        Checks.due("one act alone", group.undo(), 3);
        Checks.due("as before it", group.fingerprint(), before);
    }

    private static void undoRestoresWhatIsHidden() {
        RepairDuty group = Groups.at(0, 0, 0);
        group.commit(0, Groups.mix(70));
        group.commit(0, Groups.mix(71));
        group.undo();
        Checks.due("the earlier commitment", group.reveal(0, 70), 1);
        Groups.drawn(group, 1, 2);
        Checks.due("undo of the first draw", group.undo(), 3);
        Checks.due("no list", group.duty(0), Groups.NONE);
        Checks.due("no rank", group.member(0, 4), Groups.NONE);
        Checks.due("no seed", group.seed(), Groups.NO_SEED);
        group.draw();
        int[] list = {group.duty(0), group.duty(1), group.duty(2)};
        for (int secret = 0; secret < 20; secret++) {
            Groups.drawn(group, secret, secret);
            group.undo();
            for (int rank = 0; rank < 3; rank++) {
                Checks.due("the list before", group.duty(rank), list[rank]);
            }
        }
        group.lose(list[1], 5);
        group.lose(list[2], 5);
        group.repair(5);
        Checks.due("one was silent", group.about(9), 1);
        group.undo();
        Checks.due("no silent one", group.about(9), 0);
        Checks.due("no question", group.about(8), 0);
        Checks.due("no repair", group.past(0, 0), Groups.NONE);
    }

    private static void undoIsNoAct() {
        RepairDuty group = new RepairDuty();
        group.set(0, 1);
        group.set(0, 2);
        Checks.due("undo", group.undo(), 1);
        Checks.due("undo", group.undo(), 0);
        Checks.due("undo", group.undo(), Groups.NONE);
        Checks.due("the first wait", group.about(0), 100);
    }

    private static void bufferIsNoPart() {
        RepairDuty group = Groups.at(0, 0);
        Groups.type(group, "12:0");
        group.set(0, 7);
        Groups.type(group, "1");
        group.undo();
        Checks.due("the buffer stays", group.clear(), 5);
        Groups.type(group, "12:0");
        group.read();
        group.undo();
        Checks.due("a text read does not come back", group.clear(), 0);
        long before = group.fingerprint();
        group.type(50);
        Checks.due("no part of the fingerprint", group.fingerprint(), before);
    }

    private static void fingerprintOfANewObject() {
        RepairDuty group = new RepairDuty();
        long due = 197;
        for (int number : new int[] {100, 50, 2, 5, 3, 0, 0, 0, 0, 0}) {
            due = 31 * due + number;
        }
        due = 31 * due + Groups.NO_SEED;
        Checks.due("fingerprint", group.fingerprint(), due);
        Checks.due("fingerprint again", group.fingerprint(), due);
    }

    private static void fingerprintOfAll() {
        RepairDuty group = full();
        for (int i = 0; i < 25; i++) {
            Checks.due("fingerprint " + i, group.fingerprint(), reckoned(group));
            group.lose(i % 4, 3 * i);
            group.lose((i + 1) % 4, 3 * i);
            group.repair(3 * i);
            if (i % 8 == 0) {
                group.join(1, i);
            }
        }
        Checks.due("fingerprint", group.fingerprint(), reckoned(group));
    }

    private static long reckoned(RepairDuty group) {
        long print = 197;
        for (int what = 0; what < 10; what++) {
            print = 31 * print + group.about(what);
        }
        for (int member = 0; member < group.about(5); member++) {
            for (int what = 0; what < 9; what++) {
                print = 31 * print + group.member(member, what);
            }
        }
        print = 31 * print + group.seed();
        for (int rank = 0; group.duty(rank) != Groups.NONE; rank++) {
            print = 31 * print + group.duty(rank);
        }
        for (int block = 0; block < 200; block++) {
            int set = 0;
            for (int member = 0; member < group.about(5); member++) {
                set |= group.lost(member, block) << member;
            }
            print = set == 0 ? print : 31 * (31 * print + block) + set;
        }
        for (int i = 0; group.past(i, 0) != Groups.NONE; i++) {
            for (int what = 0; what < 7; what++) {
                print = 31 * print + group.past(i, what);
            }
        }
        return print;
    }
}
