import java.util.Random;

/** Long runs of calls with fixed seeds, each answered by the program and by the reference alike. */
public final class ReferenceTest {
    private static final int RUNS = 1500;
    private static final int CALLS = 512;
    private static final int[] WILD = {-1, Integer.MIN_VALUE, Integer.MAX_VALUE, 200, 1001, 1024, 32, -1000009};

    private final Random random;
    private final boolean calm;
    private final RepairDuty group = new RepairDuty();
    private final Reference reference = new Reference();
    private final int[] secrets = new int[10];
    private String pending = "";

    private ReferenceTest(int run) {
        random = new Random(run);
        calm = run % 3 != 0;
    }

    public static void main(String[] args) {
        for (int run = 0; run < RUNS; run++) {
            new ReferenceTest(run).go(run);
        }
        Checks.end();
    }

    private void go(int run) {
        for (int call = 0; call < CALLS; call++) {
            compare("run " + run + ", call " + call);
        }
        Checks.due("run " + run + ", fingerprint", group.fingerprint(), reference.fingerprint());
    }

    /** A number from 0 to most, at times one beside that range or a wild one. */
    private int number(int most) {
        int chance = random.nextInt(calm ? 60 : 12);
        if (chance == 0) {
            return WILD[random.nextInt(WILD.length)];
        }
        return chance == 1 ? random.nextInt(most + 3) - 1 : random.nextInt(most + 1);
    }

    private int member() {
        return number(Math.max(0, reference.about(5) - 1));
    }

    private int block() {
        return random.nextInt(4) == 0 ? number(199) : number(12);
    }

    private String losses() {
        StringBuilder text = new StringBuilder();
        int groups = 1 + random.nextInt(4);
        for (int i = 0; i < groups; i++) {
            text.append(i == 0 ? "" : ";").append(random.nextInt(random.nextInt(15) == 0 ? 300 : 20)).append(':');
            for (int k = random.nextInt(4); k >= 0; k--) {
                text.append(random.nextInt(Math.max(1, Math.min(10, reference.about(5)))));
            }
        }
        if (random.nextInt(4) == 0) {
            text.setCharAt(random.nextInt(text.length()), "0159:; x/".charAt(random.nextInt(9)));
        }
        if (random.nextInt(8) == 0) {
            text.setLength(random.nextInt(text.length()));
        }
        return text.toString();
    }

    private void compare(String where) {
        if (!pending.isEmpty()) {
            typePending(where);
            return;
        }
        int which = random.nextInt(100);
        if (which < 45) {
            compareActs(where, which);
        } else if (which < 62) {
            compareLottery(where, which);
        } else {
            compareLooks(where, which);
        }
    }

    private void typePending(String where) {
        if (pending.equals("read")) {
            Checks.due(where + " read()", group.read(), reference.read());
            pending = random.nextBoolean() ? "" : "clear";
        } else if (pending.equals("clear")) {
            Checks.due(where + " clear()", group.clear(), reference.clear());
            pending = "";
        } else {
            int c = pending.charAt(0);
            Checks.due(where + " type " + c, group.type(c), reference.type(c));
            pending = pending.length() == 1 ? "read" : pending.substring(1);
        }
    }

    private void compareActs(String where, int which) {
        if (which < 6) {
            int weight = 1 + number(8);
            int position = number(1000);
            Checks.due(where + " join", group.join(weight, position), reference.join(weight, position));
        } else if (which < 10) {
            int member = member();
            int what = number(1);
            int value = what == 0 ? 1 + number(8) : number(1000);
            Checks.due(where + " change", group.change(member, what, value), reference.change(member, what, value));
        } else if (which < 16) {
            int member = member();
            boolean lives = random.nextInt(3) > 0;
            Checks.due(where + " live", group.live(member, lives), reference.live(member, lives));
        } else if (which < 20) {
            int setting = number(4);
            int value = setting == 2 ? 1 + number(3) : number(setting == 0 ? 1000 : setting == 1 ? 500 : 100);
            Checks.due(where + " set", group.set(setting, value), reference.set(setting, value));
        } else if (which < 30) {
            int member = member();
            int block = block();
            Checks.due(where + " lose", group.lose(member, block), reference.lose(member, block));
        } else if (which < 36) {
            int block = block();
            Checks.due(where + " repair", group.repair(block), reference.repair(block));
        } else if (which < 38) {
            Checks.due(where + " repairAll", group.repairAll(), reference.repairAll());
        } else if (which < 40) {
            pending = losses();
        } else if (which < 42) {
            Checks.due(where + " undo", group.undo(), reference.undo());
        } else {
            int c = number(126);
            Checks.due(where + " type", group.type(c), reference.type(c));
            pending = random.nextInt(3) == 0 ? "read" : "";
        }
    }

    private void compareLottery(String where, int which) {
        int member = member();
        int place = Math.floorMod(member, 10);
        if (which < 50) {
            secrets[place] = random.nextInt();
            int told = random.nextInt(9) == 0 ? random.nextInt(5) : Groups.mix(secrets[place]);
            Checks.due(where + " commit", group.commit(member, told), reference.commit(member, told));
        } else if (which < 58) {
            int secret = random.nextInt(9) == 0 ? random.nextInt(5) : secrets[place];
            Checks.due(where + " reveal", group.reveal(member, secret), reference.reveal(member, secret));
        } else if (which < 60) {
            Checks.due(where + " draw", group.draw(), reference.draw());
        } else {
            int left = random.nextInt(3) == 0 ? number(1023) : 1 << random.nextInt(10);
            int rank = number(9);
            Checks.due(where + " ifLeft", group.ifLeft(left, rank), reference.ifLeft(left, rank));
        }
    }

    private void compareLooks(String where, int which) {
        int member = member();
        int block = block();
        int what = number(9);
        switch (which % 14) {
            case 0: Checks.due(where + " member", group.member(member, what), reference.member(member, what)); break;
            case 1: Checks.due(where + " about", group.about(what), reference.about(what)); break;
            case 2: Checks.due(where + " mix", group.mix(member), Groups.mix(member)); break;
            case 3: Checks.due(where + " seed", group.seed(), reference.seed()); break;
            case 4: Checks.due(where + " duty", group.duty(what), reference.duty(what)); break;
            case 5: Checks.due(where + " lost", group.lost(member, block), reference.lost(member, block)); break;
            case 6: Checks.due(where + " why", group.why(block), reference.why(block)); break;
            case 7: Checks.due(where + " silence", (double) group.silence(), (double) reference.silence()); break;
            case 8: Checks.due(where + " bestWait", group.bestWait(), reference.bestWait()); break;
            case 9: Checks.due(where + " clear", group.clear(), reference.clear()); break;
            case 10: Checks.due(where + " fingerprint", group.fingerprint(), reference.fingerprint()); break;
            case 11: comparePast(where); break;
            default: compareLook(where, block); break;
        }
    }

    private void comparePast(String where) {
        int i = number(22);
        int what = number(6);
        Checks.due(where + " past " + i + " " + what, group.past(i, what), reference.past(i, what));
    }

    private void compareLook(String where, int block) {
        int what = number(2);
        int member = member();
        Checks.due(where + " look", group.look(block, member, what), reference.look(block, member, what));
    }
}
