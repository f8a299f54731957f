import java.util.ArrayDeque;
import java.util.ArrayList;
import java.util.Deque;
import java.util.List;
import java.util.TreeMap;
import java.util.TreeSet;
import java.util.regex.Matcher;
import java.util.regex.Pattern;

/** The document once more, written with the Java library and apart from the program, to compare with. */
final class Reference {
    private static final int[][] RANGES = {{1, 1000}, {0, 500}, {1, 10}, {0, 100}, {0, 100}};

    private static final class Member {
        int weight;
        int position;
        boolean living = true;
        int credits;
        int repairs;
        int missed;
        Integer told;
        Integer secret;

        Member copy() {
            Member m = new Member();
            m.weight = weight;
            m.position = position;
            m.living = living;
            m.credits = credits;
            m.repairs = repairs;
            m.missed = missed;
            m.told = told;
            m.secret = secret;
            return m;
        }

        boolean right() {
            return secret != null && Groups.mix(secret) == told;
        }
    }

    /** What came, or would come, of a block: the times are of the losers alone. */
    private record Repair(int block, int round, int repairer, TreeSet<Integer> asked, TreeSet<Integer> silent,
                          TreeSet<Integer> missed, int first, TreeMap<Integer, Integer> waits,
                          TreeMap<Integer, Integer> times) {
        int time() {
            return times.values().stream().max(Integer::compare).get();
        }

        int number(int what) {
            int[] all = {block, round, repairer, bits(asked), bits(silent), bits(missed), time()};
            return all[what];
        }
    }

    private static int bits(Iterable<Integer> set) {
        int bits = 0;
        for (int member : set) {
            bits |= 1 << member;
        }
        return bits;
    }

    private static final class World {
        int[] settings = {100, 50, 2, 5, 3};
        List<Member> members = new ArrayList<>();
        TreeMap<Integer, TreeSet<Integer>> lost = new TreeMap<>();
        List<Integer> list = new ArrayList<>();
        List<Repair> repairs = new ArrayList<>();
        int round;
        int seed;

        World copy() {
            World w = new World();
            w.settings = settings.clone();
            for (Member m : members) {
                w.members.add(m.copy());
            }
            lost.forEach((block, set) -> w.lost.put(block, new TreeSet<>(set)));
            w.list = new ArrayList<>(list);
            w.repairs = new ArrayList<>(repairs);
            w.round = round;
            w.seed = seed;
            return w;
        }
    }

    private World world = new World();
    private final Deque<World> before = new ArrayDeque<>();
    private String text = "";

    private void act() {
        before.addLast(world.copy());
        if (before.size() > 4) {
            before.removeFirst();
        }
    }

    private static boolean in(int x, int low, int high) {
        return low <= x && x <= high;
    }

    private boolean no(int member) {
        return !in(member, 0, world.members.size() - 1);
    }

    int join(int weight, int position) {
        if (!in(weight, 1, 9) || !in(position, 0, 1000)) {
            return Groups.BAD;
        }
        if (world.members.size() == 10) {
            return Groups.FULL;
        }
        act();
        Member m = new Member();
        m.weight = weight;
        m.position = position;
        world.members.add(m);
        return world.members.indexOf(m);
    }

    int change(int member, int what, int value) {
        if (no(member) || !in(what, 0, 1) || (what == 0 ? !in(value, 1, 9) : !in(value, 0, 1000))) {
            return Groups.BAD;
        }
        act();
        Member m = world.members.get(member);
        int old = what == 0 ? m.weight : m.position;
        if (what == 0) {
            m.weight = value;
        } else {
            m.position = value;
        }
        return old;
    }

    int live(int member, boolean lives) {
        if (no(member)) {
            return Groups.BAD;
        }
        act();
        boolean old = world.members.get(member).living;
        world.members.get(member).living = lives;
        return old ? 1 : 0;
    }

    int member(int member, int what) {
        if (no(member) || !in(what, 0, 8)) {
            return Groups.BAD;
        }
        Member m = world.members.get(member);
        int rank = world.list.indexOf(member);
        int lost = (int) world.lost.values().stream().filter(set -> set.contains(member)).count();
        int stage = m.told == null ? 0 : m.secret == null ? 1 : m.right() ? 2 : 3;
        return new int[] {m.weight, m.position, m.living ? 1 : 0, m.credits, rank < 0 ? Groups.NONE : rank, lost,
            m.repairs, m.missed, stage}[what];
    }

    int set(int setting, int value) {
        if (!in(setting, 0, 4) || !in(value, RANGES[setting][0], RANGES[setting][1])) {
            return Groups.BAD;
        }
        act();
        int old = world.settings[setting];
        world.settings[setting] = value;
        return old;
    }

    int about(int what) {
        if (!in(what, 0, 9)) {
            return Groups.BAD;
        }
        if (what < 5) {
            return world.settings[what];
        }
        int asked = world.repairs.stream().mapToInt(r -> r.asked.size()).sum();
        int silent = world.repairs.stream().mapToInt(r -> r.silent.size()).sum();
        return new int[] {world.members.size(), world.round, world.repairs.size(), asked, silent}[what - 5];
    }

    int commit(int member, int told) {
        if (no(member)) {
            return Groups.BAD;
        }
        if (!world.members.get(member).living) {
            return Groups.STATE;
        }
        act();
        Member m = world.members.get(member);
        int had = m.told == null ? 0 : 1;
        m.told = told;
        m.secret = null;
        return had;
    }

    int reveal(int member, int secret) {
        if (no(member)) {
            return Groups.BAD;
        }
        if (!world.members.get(member).living || world.members.get(member).told == null) {
            return Groups.STATE;
        }
        act();
        Member m = world.members.get(member);
        m.secret = secret;
        return m.right() ? 1 : 0;
    }

    /** The seed of the next round, with some reveals left out, or null if there are too few. */
    private Integer nextSeed(int left) {
        int s = world.round + 1;
        int count = 0;
        for (int i = 0; i < world.members.size(); i++) {
            Member m = world.members.get(i);
            if (m.right() && (left & 1 << i) == 0) {
                s = Groups.mix(s ^ m.secret);
                count++;
            }
        }
        return count < world.settings[2] ? null : Integer.valueOf(s);
    }

    private List<Integer> nextList(int seed) {
        int[] weights = world.members.stream().mapToInt(m -> m.weight).toArray();
        List<Integer> list = new ArrayList<>();
        for (int member : Groups.list(seed, weights)) {
            list.add(member);
        }
        return list;
    }

    int draw() {
        Integer seed = nextSeed(0);
        if (seed == null) {
            return Groups.STATE;
        }
        act();
        world.round++;
        world.seed = seed;
        world.list = nextList(seed);
        for (Member m : world.members) {
            if (m.told != null && !m.right()) {
                m.credits -= world.settings[4];
            }
            m.told = null;
            m.secret = null;
        }
        return world.round;
    }

    long seed() {
        return world.round == 0 ? Groups.NO_SEED : world.seed;
    }

    int duty(int rank) {
        if (rank < 0) {
            return Groups.BAD;
        }
        return rank < world.list.size() ? world.list.get(rank) : Groups.NONE;
    }

    int ifLeft(int left, int rank) {
        if (!in(left, 0, 1023) || rank < 0) {
            return Groups.BAD;
        }
        Integer seed = nextSeed(left);
        if (seed == null) {
            return Groups.STATE;
        }
        return rank < world.members.size() ? nextList(seed).get(rank) : Groups.NONE;
    }

    private TreeSet<Integer> without(int block) {
        return world.lost.computeIfAbsent(block, b -> new TreeSet<>());
    }

    int lose(int member, int block) {
        if (no(member) || !in(block, 0, 199)) {
            return Groups.BAD;
        }
        act();
        without(block).add(member);
        return without(block).size();
    }

    int type(int c) {
        if (!in(c, 32, 126)) {
            return Groups.BAD;
        }
        if (text.length() == 60) {
            return Groups.FULL;
        }
        text += (char) c;
        return text.length();
    }

    int clear() {
        int length = text.length();
        text = "";
        return length;
    }

    private int errorPlace() {
        int count = world.members.size();
        String member = count == 0 ? "[0&&1]" : "[0-" + (count - 1) + "]";
        String group = "[0-9]{1,3}:" + member + "+";
        Pattern pattern = Pattern.compile(group + "(;" + group + ")*");
        for (int i = 1; i <= text.length(); i++) {
            Matcher matcher = pattern.matcher(text.substring(0, i));
            if (!matcher.matches() && !matcher.hitEnd()) {
                return i - 1;
            }
        }
        if (!pattern.matcher(text).matches()) {
            return text.length();
        }
        int place = 0;
        for (String part : text.split(";")) {
            if (Integer.parseInt(part.split(":")[0]) > 199) {
                return place;
            }
            place += part.length() + 1;
        }
        return -1;
    }

    int read() {
        int place = errorPlace();
        if (place >= 0) {
            return -100 - place;
        }
        act();
        int fresh = 0;
        for (String part : text.split(";")) {
            String[] halves = part.split(":");
            for (char c : halves[1].toCharArray()) {
                fresh += without(Integer.parseInt(halves[0])).add(c - '0') ? 1 : 0;
            }
        }
        text = "";
        return fresh;
    }

    int lost(int member, int block) {
        if (no(member) || !in(block, 0, 199)) {
            return Groups.BAD;
        }
        return without(block).contains(member) ? 1 : 0;
    }

    private int distance(int one, int other) {
        return Math.abs(world.members.get(one).position - world.members.get(other).position);
    }

    private TreeSet<Integer> losers(int block) {
        TreeSet<Integer> losers = new TreeSet<>(without(block));
        losers.removeIf(m -> !world.members.get(m).living);
        return losers;
    }

    private Integer repairer(int block) {
        return world.list.stream().filter(m -> world.members.get(m).living && !without(block).contains(m))
            .findFirst().orElse(null);
    }

    int why(int block) {
        if (!in(block, 0, 199)) {
            return Groups.BAD;
        }
        return world.round == 0 ? 1 : losers(block).isEmpty() ? 2 : repairer(block) == null ? 3 : 0;
    }

    private Repair reckon(int block, int wait) {
        TreeMap<Integer, Integer> waits = new TreeMap<>();
        losers(block).forEach(m -> waits.put(m, Groups.waitOf(world.seed, block, m, wait)));
        int least = waits.values().stream().min(Integer::compare).get();
        int first = waits.keySet().stream().filter(m -> waits.get(m) == least).findFirst().get();
        TreeSet<Integer> asked = new TreeSet<>();
        TreeSet<Integer> silent = new TreeSet<>();
        waits.forEach((m, w) -> (m != first && w > least + distance(m, first) ? silent : asked).add(m));
        int repairer = repairer(block);
        int rank = world.list.indexOf(repairer);
        TreeSet<Integer> missed = new TreeSet<>(world.list.subList(0, rank));
        missed.removeIf(m -> world.members.get(m).living);
        int heard = asked.stream().mapToInt(m -> waits.get(m) + distance(m, repairer)).min().getAsInt();
        TreeMap<Integer, Integer> times = new TreeMap<>();
        waits.keySet().forEach(m -> times.put(m, heard + world.settings[1] * rank + distance(m, repairer)));
        return new Repair(block, world.round, repairer, asked, silent, missed, first, waits, times);
    }

    private Repair carryOut(int block) {
        Repair repair = reckon(block, world.settings[0]);
        without(block).removeAll(repair.times.keySet());
        world.members.get(repair.repairer).credits += world.settings[3];
        world.members.get(repair.repairer).repairs++;
        for (int m : repair.missed) {
            world.members.get(m).credits -= world.settings[4];
            world.members.get(m).missed++;
        }
        world.repairs.add(0, repair);
        return repair;
    }

    int repair(int block) {
        if (why(block) != 0) {
            return why(block) == Groups.BAD ? Groups.BAD : Groups.STATE;
        }
        act();
        return carryOut(block).time();
    }

    int repairAll() {
        act();
        int count = 0;
        for (int block = 0; block < 200; block++) {
            if (why(block) == 0) {
                carryOut(block);
                count++;
            }
        }
        return count;
    }

    int look(int block, int member, int what) {
        if (!in(block, 0, 199) || no(member) || !in(what, 0, 2)) {
            return Groups.BAD;
        }
        if (why(block) != 0) {
            return Groups.STATE;
        }
        Repair r = reckon(block, world.settings[0]);
        if (what > 0) {
            return (what == 1 ? r.waits : r.times).getOrDefault(member, Groups.NONE);
        }
        return r.first == member ? 1 : r.asked.contains(member) ? 2 : r.silent.contains(member) ? 3
            : r.repairer == member ? 4 : r.missed.contains(member) ? 5 : 0;
    }

    int past(int i, int what) {
        if (i < 0 || !in(what, 0, 6)) {
            return Groups.BAD;
        }
        return i < 20 && i < world.repairs.size() ? world.repairs.get(i).number(what) : Groups.NONE;
    }

    float silence() {
        int all = about(8) + about(9);
        return all == 0 ? 0 : (float) about(9) / (float) all;
    }

    int bestWait() {
        int best = Groups.NONE;
        int bestSum = Integer.MAX_VALUE;
        for (int wait : new int[] {1, 10, 30, 100, 300, 1000}) {
            int sum = 0;
            boolean any = false;
            for (int block = 0; block < 200; block++) {
                if (why(block) == 0) {
                    any = true;
                    sum += reckon(block, wait).time();
                }
            }
            if (any && sum < bestSum) {
                bestSum = sum;
                best = wait;
            }
        }
        return best;
    }

    int undo() {
        if (before.isEmpty()) {
            return Groups.NONE;
        }
        world = before.removeLast();
        return before.size();
    }

    long fingerprint() {
        List<Long> numbers = new ArrayList<>();
        for (int what = 0; what < 10; what++) {
            numbers.add((long) about(what));
        }
        for (int m = 0; m < world.members.size(); m++) {
            for (int what = 0; what < 9; what++) {
                numbers.add((long) member(m, what));
            }
        }
        numbers.add(seed());
        world.list.forEach(m -> numbers.add((long) m));
        world.lost.forEach((block, set) -> {
            if (!set.isEmpty()) {
                numbers.add((long) block);
                numbers.add((long) bits(set));
            }
        });
        for (int i = 0; i < Math.min(20, world.repairs.size()); i++) {
            for (int what = 0; what < 7; what++) {
                numbers.add((long) past(i, what));
            }
        }
        return numbers.stream().reduce(197L, (print, number) -> 31 * print + number);
    }
}
