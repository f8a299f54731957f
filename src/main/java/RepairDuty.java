/** Repair duty for a group that gets blocks by many-to-many sending; README.md tells how to use it. */
public final class RepairDuty {
    public static final int BAD = -1000001;
    public static final int STATE = -1000002;
    public static final int FULL = -1000003;
    public static final int NONE = -1000009;

    private static final int MOST_MEMBERS = 10;
    private static final int MOST_BLOCKS = 200;
    private static final int MOST_REPAIRS = 20;
    private static final int MOST_STATES = 4;
    private static final int MOST_CHARACTERS = 60;
    private static final int EVERY_SET = (1 << MOST_MEMBERS) - 1;
    private static final long NO_SEED = -4611686018427387905L;

    private static final int WAIT = 0;
    private static final int STEP = 1;
    private static final int LEAST_REVEALS = 2;
    private static final int REWARD = 3;
    private static final int FINE = 4;
    private static final int SETTINGS = 5;
    private static final int[] LOWEST = {1, 0, 1, 0, 0};
    private static final int[] HIGHEST = {1000, 500, 10, 100, 100};
    private static final int[] WAITS_TO_TRY = {1, 10, 30, 100, 300, 1000};

    private static final int NOTHING_TOLD = 0;
    private static final int COMMITTED = 1;
    private static final int REVEALED_RIGHTLY = 2;
    private static final int REVEALED_WRONGLY = 3;

    private static final int POSSIBLE = 0;
    private static final int NO_ROUND = 1;
    private static final int NO_LOSERS = 2;
    private static final int NO_REPAIRER = 3;

    private static final int REPAIR_NUMBERS = 7;

    private final State now;
    private final History history;
    private final Text text;
    // What is only reckoned, and never kept, is made once: a run of calls lives in one small room.
    private final Plan plan;
    private final Duties guess;

    public RepairDuty() {
        now = new State();
        history = new History();
        text = new Text();
        plan = new Plan();
        guess = new Duties();
    }

    public int join(int weight, int position) {
        if (!isWeight(weight) || !isPosition(position)) {
            return BAD;
        }
        if (now.members.count >= MOST_MEMBERS) {
            return FULL;
        }
        history.keep(now);
        return now.members.enter(weight, position);
    }

    public int change(int member, int what, int value) {
        if (!isMember(member)) {
            return BAD;
        }
        if (what == 0 && isWeight(value)) {
            history.keep(now);
            return now.members.weights.swap(member, value);
        }
        if (what == 1 && isPosition(value)) {
            history.keep(now);
            return now.members.positions.swap(member, value);
        }
        return BAD;
    }

    public int live(int member, boolean lives) {
        if (!isMember(member)) {
            return BAD;
        }
        history.keep(now);
        int before = now.members.lives(member) ? 1 : 0;
        int bit = 1 << member;
        now.members.living = lives ? now.members.living | bit : now.members.living & ~bit;
        return before;
    }

    public int member(int member, int what) {
        if (!isMember(member)) {
            return BAD;
        }
        switch (what) {
            case 0: return now.members.weights.at(member);
            case 1: return now.members.positions.at(member);
            case 2: return now.members.lives(member) ? 1 : 0;
            case 3: return now.members.credits.at(member);
            case 4: return now.duties.rankOf(member);
            case 5: return now.blocksLostBy(member);
            case 6: return now.members.repaired.at(member);
            case 7: return now.members.missed.at(member);
            case 8: return now.members.stages.at(member);
            default: return BAD;
        }
    }

    public int set(int setting, int value) {
        if (!isSettingValue(setting, value)) {
            return BAD;
        }
        history.keep(now);
        return now.settings.swap(setting, value);
    }

    public int about(int what) {
        if (what >= 0 && what < SETTINGS) {
            return now.settings.at(what);
        }
        switch (what) {
            case 5: return now.members.count;
            case 6: return now.duties.round;
            case 7: return now.log.made;
            case 8: return now.log.asked;
            case 9: return now.log.silent;
            default: return BAD;
        }
    }

    public int mix(int x) {
        return Numbers.mixed(x);
    }

    public int commit(int member, int told) {
        if (!isMember(member)) {
            return BAD;
        }
        if (!now.members.lives(member)) {
            return STATE;
        }
        history.keep(now);
        now.members.told.put(member, told);
        int before = now.members.stages.swap(member, COMMITTED);
        return before == NOTHING_TOLD ? 0 : 1;
    }

    public int reveal(int member, int secret) {
        if (!isMember(member)) {
            return BAD;
        }
        if (!now.members.lives(member) || now.members.stages.at(member) == NOTHING_TOLD) {
            return STATE;
        }
        history.keep(now);
        boolean right = Numbers.mixed(secret) == now.members.told.at(member);
        now.members.secrets.put(member, secret);
        now.members.stages.put(member, right ? REVEALED_RIGHTLY : REVEALED_WRONGLY);
        return right ? 1 : 0;
    }

    public int draw() {
        int reveals = now.members.rightReveals();
        if (!areEnough(reveals)) {
            return STATE;
        }
        history.keep(now);
        now.duties.drawNext(now.duties.round, now.members, reveals);
        now.members.endLottery(now.settings.at(FINE));
        return now.duties.round;
    }

    public long seed() {
        return now.duties.round == 0 ? NO_SEED : now.duties.seed;
    }

    public int duty(int rank) {
        return rank < 0 ? BAD : now.duties.memberAt(rank);
    }

    public int ifLeft(int left, int rank) {
        if (left < 0 || left > EVERY_SET || rank < 0) {
            return BAD;
        }
        int reveals = now.members.rightReveals() & ~left;
        if (!areEnough(reveals)) {
            return STATE;
        }
        guess.drawNext(now.duties.round, now.members, reveals);
        return guess.memberAt(rank);
    }

    public int lose(int member, int block) {
        if (!isMember(member) || !isBlock(block)) {
            return BAD;
        }
        history.keep(now);
        now.lost.put(block, now.lost.at(block) | (1 << member));
        return Integer.bitCount(now.lost.at(block));
    }

    public int type(int c) {
        if (c < 32 || c > 126) {
            return BAD;
        }
        return text.append(c) ? text.length : FULL;
    }

    public int clear() {
        return text.empty();
    }

    public int read() {
        int place = text.errorPlace(now.members.count);
        if (place >= 0) {
            return -100 - place;
        }
        history.keep(now);
        int fresh = text.enterLosses(now.lost);
        text.empty();
        return fresh;
    }

    public int lost(int member, int block) {
        if (!isMember(member) || !isBlock(block)) {
            return BAD;
        }
        return Numbers.has(now.lost.at(block), member) ? 1 : 0;
    }

    public int repair(int block) {
        if (!isBlock(block)) {
            return BAD;
        }
        plan.reckon(now, block, now.settings.at(WAIT));
        if (plan.hindrance != POSSIBLE) {
            return STATE;
        }
        history.keep(now);
        now.carryOut(plan);
        return plan.time;
    }

    public int repairAll() {
        history.keep(now);
        int repairs = 0;
        for (int block = 0; block < MOST_BLOCKS; block++) {
            plan.reckon(now, block, now.settings.at(WAIT));
            if (plan.hindrance == POSSIBLE) {
                now.carryOut(plan);
                repairs++;
            }
        }
        return repairs;
    }

    public int look(int block, int member, int what) {
        if (!isBlock(block) || !isMember(member) || what < 0 || what > 2) {
            return BAD;
        }
        plan.reckon(now, block, now.settings.at(WAIT));
        if (plan.hindrance != POSSIBLE) {
            return STATE;
        }
        if (what == 0) {
            return plan.partOf(member);
        }
        if (!Numbers.has(plan.losers, member)) {
            return NONE;
        }
        return what == 1 ? plan.waits.at(member) : plan.arrivals.at(member);
    }

    public int past(int i, int what) {
        if (i < 0 || what < 0 || what >= REPAIR_NUMBERS) {
            return BAD;
        }
        return now.log.number(i, what);
    }

    public int why(int block) {
        if (!isBlock(block)) {
            return BAD;
        }
        plan.reckon(now, block, now.settings.at(WAIT));
        return plan.hindrance;
    }

    public float silence() {
        float silent = now.log.silent;
        float all = now.log.asked + now.log.silent;
        return all > 0 ? silent / all : 0;
    }

    public int bestWait() {
        int best = NONE;
        int bestSum = 0;
        for (int wait : WAITS_TO_TRY) {
            int sum = sumOfTimes(wait);
            if (sum != NONE && (best == NONE || sum < bestSum)) {
                best = wait;
                bestSum = sum;
            }
        }
        return best;
    }

    public int undo() {
        if (history.count == 0) {
            return NONE;
        }
        history.giveBack(now);
        return history.count;
    }

    public long fingerprint() {
        long print = 197;
        for (int what = 0; what <= 9; what++) {
            print = 31 * print + about(what);
        }
        for (int member = 0; member < now.members.count; member++) {
            for (int what = 0; what <= 8; what++) {
                print = 31 * print + member(member, what);
            }
        }
        print = 31 * print + seed();
        for (int rank = 0; rank < now.duties.size; rank++) {
            print = 31 * print + duty(rank);
        }
        for (int block = 0; block < MOST_BLOCKS; block++) {
            if (now.lost.at(block) != 0) {
                print = 31 * (31 * print + block) + now.lost.at(block);
            }
        }
        for (int i = 0; i < now.log.kept(); i++) {
            for (int what = 0; what < REPAIR_NUMBERS; what++) {
                print = 31 * print + past(i, what);
            }
        }
        return print;
    }

    private boolean isMember(int member) {
        return member >= 0 && member < now.members.count;
    }

    private static boolean isBlock(int block) {
        return block >= 0 && block < MOST_BLOCKS;
    }

    private static boolean isWeight(int weight) {
        return weight >= 1 && weight <= 9;
    }

    private static boolean isPosition(int position) {
        return position >= 0 && position <= 1000;
    }

    private static boolean isSettingValue(int setting, int value) {
        return setting >= 0 && setting < LOWEST.length && setting < HIGHEST.length
            && value >= LOWEST[setting] && value <= HIGHEST[setting];
    }

    private boolean areEnough(int reveals) {
        return Integer.bitCount(reveals) >= now.settings.at(LEAST_REVEALS);
    }

    /** The sum of the times of all repairs possible now, or NONE if there is none. */
    private int sumOfTimes(int wait) {
        int sum = NONE;
        for (int block = 0; block < MOST_BLOCKS; block++) {
            plan.reckon(now, block, wait);
            if (plan.hindrance == POSSIBLE) {
                sum = (sum == NONE ? 0 : sum) + plan.time;
            }
        }
        return sum;
    }

    /** MIX, lots, and sets of members (bit k for member k). */
    private static final class Numbers {
        static int mixed(int x) {
            int once = x * 1103515245 + 12345;
            return (once ^ (once >>> 15)) * 1103515245 + 12345;
        }

        /** The lot of m that a state answers once it has been mixed. */
        static int lot(int mixedState, int m) {
            return m > 0 ? (mixedState >>> 16) % m : 0;
        }

        static boolean has(int set, int member) {
            return ((set >> member) & 1) == 1;
        }
    }

    /** A row of numbers; every index is tested here, so no other place has to. */
    private static final class Row {
        final int[] cells;

        Row(int size) {
            cells = new int[size > 0 ? size : 0];
        }

        int at(int i) {
            return i >= 0 && i < cells.length ? cells[i] : 0;
        }

        void put(int i, int value) {
            if (i >= 0 && i < cells.length) {
                cells[i] = value;
            }
        }

        void add(int i, int more) {
            put(i, at(i) + more);
        }

        int swap(int i, int value) {
            int before = at(i);
            put(i, value);
            return before;
        }

        void copy(Row other) {
            int size = Math.min(cells.length, other.cells.length);
            System.arraycopy(other.cells, 0, cells, 0, size);
        }
    }

    /** The members, and what they have told the lottery of the next round. */
    private static final class Members {
        int count;
        int living;
        final Row weights = new Row(MOST_MEMBERS);
        final Row positions = new Row(MOST_MEMBERS);
        final Row credits = new Row(MOST_MEMBERS);
        final Row repaired = new Row(MOST_MEMBERS);
        final Row missed = new Row(MOST_MEMBERS);
        final Row stages = new Row(MOST_MEMBERS);
        final Row told = new Row(MOST_MEMBERS);
        final Row secrets = new Row(MOST_MEMBERS);

        int enter(int weight, int position) {
            int member = count;
            weights.put(member, weight);
            positions.put(member, position);
            living |= 1 << member;
            count++;
            return member;
        }

        boolean lives(int member) {
            return Numbers.has(living, member);
        }

        int distance(int one, int other) {
            return Math.abs(positions.at(one) - positions.at(other));
        }

        int rightReveals() {
            int set = 0;
            for (int member = 0; member < count; member++) {
                if (stages.at(member) == REVEALED_RIGHTLY) {
                    set |= 1 << member;
                }
            }
            return set;
        }

        void endLottery(int fine) {
            for (int member = 0; member < count; member++) {
                int stage = stages.swap(member, NOTHING_TOLD);
                if (stage == COMMITTED || stage == REVEALED_WRONGLY) {
                    credits.add(member, -fine);
                }
            }
        }

        void copy(Members other) {
            count = other.count;
            living = other.living;
            weights.copy(other.weights);
            positions.copy(other.positions);
            credits.copy(other.credits);
            repaired.copy(other.repaired);
            missed.copy(other.missed);
            stages.copy(other.stages);
            told.copy(other.told);
            secrets.copy(other.secrets);
        }
    }

    /** A round with its seed and its list. */
    private static final class Duties {
        int round;
        int seed;
        int size;
        final Row list = new Row(MOST_MEMBERS);

        void drawNext(int roundBefore, Members members, int reveals) {
            round = roundBefore + 1;
            seed = round;
            for (int member = 0; member < members.count; member++) {
                if (Numbers.has(reveals, member)) {
                    seed = Numbers.mixed(seed ^ members.secrets.at(member));
                }
            }
            drawList(members);
        }

        void drawList(Members members) {
            int state = seed;
            int listed = 0;
            for (int rank = 0; rank < members.count; rank++) {
                state = Numbers.mixed(state);
                int lot = Numbers.lot(state, weightOfOthers(members, listed));
                int member = memberOfLot(members, listed, lot);
                list.put(rank, member);
                listed |= 1 << member;
            }
            size = members.count;
        }

        static int weightOfOthers(Members members, int listed) {
            int sum = 0;
            for (int member = 0; member < members.count; member++) {
                if (!Numbers.has(listed, member)) {
                    sum += members.weights.at(member);
                }
            }
            return sum;
        }

        static int memberOfLot(Members members, int listed, int lot) {
            int sum = 0;
            for (int member = 0; member < members.count; member++) {
                if (!Numbers.has(listed, member)) {
                    sum += members.weights.at(member);
                    if (sum > lot) {
                        return member;
                    }
                }
            }
            return 0;
        }

        int memberAt(int rank) {
            return rank >= 0 && rank < size ? list.at(rank) : NONE;
        }

        int rankOf(int member) {
            for (int rank = 0; rank < size; rank++) {
                if (list.at(rank) == member) {
                    return rank;
                }
            }
            return NONE;
        }

        void copy(Duties other) {
            round = other.round;
            seed = other.seed;
            size = other.size;
            list.copy(other.list);
        }
    }

    /** The repairs made: their counts, and the numbers of the latest ones. */
    private static final class Log {
        int made;
        int asked;
        int silent;
        final Row numbers = new Row(MOST_REPAIRS * REPAIR_NUMBERS);

        void add(Plan plan, int round) {
            int place = made % MOST_REPAIRS * REPAIR_NUMBERS;
            numbers.put(place, plan.block);
            numbers.put(place + 1, round);
            numbers.put(place + 2, plan.repairer);
            numbers.put(place + 3, plan.asking);
            numbers.put(place + 4, plan.silent);
            numbers.put(place + 5, plan.missing);
            numbers.put(place + 6, plan.time);
            made++;
            asked += Integer.bitCount(plan.asking);
            silent += Integer.bitCount(plan.silent);
        }

        int kept() {
            return Math.min(made, MOST_REPAIRS);
        }

        int number(int i, int what) {
            if (i >= kept()) {
                return NONE;
            }
            return numbers.at((made - 1 - i) % MOST_REPAIRS * REPAIR_NUMBERS + what);
        }

        void copy(Log other) {
            made = other.made;
            asked = other.asked;
            silent = other.silent;
            numbers.copy(other.numbers);
        }
    }

    /** All that undo() restores. */
    private static final class State {
        final Row settings = new Row(SETTINGS);
        final Members members = new Members();
        final Duties duties = new Duties();
        final Row lost = new Row(MOST_BLOCKS);
        final Log log = new Log();

        State() {
            settings.put(WAIT, 100);
            settings.put(STEP, 50);
            settings.put(LEAST_REVEALS, 2);
            settings.put(REWARD, 5);
            settings.put(FINE, 3);
        }

        int blocksLostBy(int member) {
            int blocks = 0;
            for (int block = 0; block < MOST_BLOCKS; block++) {
                blocks += Numbers.has(lost.at(block), member) ? 1 : 0;
            }
            return blocks;
        }

        void carryOut(Plan plan) {
            lost.put(plan.block, lost.at(plan.block) & ~plan.losers);
            members.credits.add(plan.repairer, settings.at(REWARD));
            members.repaired.add(plan.repairer, 1);
            for (int member = 0; member < members.count; member++) {
                if (Numbers.has(plan.missing, member)) {
                    members.credits.add(member, -settings.at(FINE));
                    members.missed.add(member, 1);
                }
            }
            log.add(plan, duties.round);
        }

        void copy(State other) {
            settings.copy(other.settings);
            members.copy(other.members);
            duties.copy(other.duties);
            lost.copy(other.lost);
            log.copy(other.log);
        }
    }

    /** A repair of a block, as it would be made in a state. */
    private static final class Plan {
        int block;
        int hindrance;
        int losers;
        int asking;
        int silent;
        int missing;
        int first;
        int repairer;
        int repairerRank;
        int time;
        final Row waits = new Row(MOST_MEMBERS);
        final Row arrivals = new Row(MOST_MEMBERS);

        void reckon(State state, int ofBlock, int wait) {
            block = ofBlock;
            losers = state.members.living & state.lost.at(block);
            hindrance = hindranceIn(state);
            if (hindrance == POSSIBLE) {
                drawWaits(state.duties.seed, wait);
                findWhoAsks(state.members);
                reckonTimes(state.members, state.settings.at(STEP));
            }
        }

        int hindranceIn(State state) {
            if (state.duties.round == 0) {
                return NO_ROUND;
            }
            if (losers == 0) {
                return NO_LOSERS;
            }
            findRepairer(state);
            return repairer == NONE ? NO_REPAIRER : POSSIBLE;
        }

        void findRepairer(State state) {
            missing = 0;
            for (int rank = 0; rank < state.duties.size; rank++) {
                int member = state.duties.memberAt(rank);
                boolean lives = state.members.lives(member);
                if (lives && !Numbers.has(losers, member)) {
                    repairer = member;
                    repairerRank = rank;
                    return;
                }
                if (!lives) {
                    missing |= 1 << member;
                }
            }
            repairer = NONE;
        }

        void drawWaits(int seed, int wait) {
            first = NONE;
            for (int member = 0; member < MOST_MEMBERS; member++) {
                if (Numbers.has(losers, member)) {
                    int state = Numbers.mixed(seed ^ (1000 * block + member));
                    waits.put(member, Numbers.lot(Numbers.mixed(state), wait));
                    if (first == NONE || waits.at(member) < waits.at(first)) {
                        first = member;
                    }
                }
            }
        }

        void findWhoAsks(Members members) {
            asking = 0;
            for (int member = 0; member < members.count; member++) {
                boolean inTime = waits.at(member) <= waits.at(first) + members.distance(member, first);
                if (Numbers.has(losers, member) && inTime) {
                    asking |= 1 << member;
                }
            }
            silent = losers & ~asking;
        }

        void reckonTimes(Members members, int step) {
            int sent = timeOfHearing(members) + step * repairerRank;
            time = 0;
            for (int member = 0; member < members.count; member++) {
                if (Numbers.has(losers, member)) {
                    int arrival = sent + members.distance(member, repairer);
                    arrivals.put(member, arrival);
                    time = Math.max(time, arrival);
                }
            }
        }

        int timeOfHearing(Members members) {
            int heard = waits.at(first) + members.distance(first, repairer);
            for (int member = 0; member < members.count; member++) {
                if (Numbers.has(asking, member)) {
                    heard = Math.min(heard, waits.at(member) + members.distance(member, repairer));
                }
            }
            return heard;
        }

        int partOf(int member) {
            if (member == first) {
                return 1;
            }
            if (Numbers.has(asking, member)) {
                return 2;
            }
            if (Numbers.has(silent, member)) {
                return 3;
            }
            if (member == repairer) {
                return 4;
            }
            return Numbers.has(missing, member) ? 5 : 0;
        }
    }

    /** The buffer, and what its text tells. */
    private static final class Text {
        int length;
        final Row signs = new Row(MOST_CHARACTERS);

        boolean append(int sign) {
            if (length >= MOST_CHARACTERS) {
                return false;
            }
            signs.put(length, sign);
            length++;
            return true;
        }

        int empty() {
            int before = length;
            length = 0;
            return before;
        }

        static boolean isDigit(int sign) {
            return sign >= '0' && sign <= '9';
        }

        /** The error place, or -1 if the text is right. */
        int errorPlace(int members) {
            int wrongSign = wrongSignPlace(members);
            return wrongSign >= 0 ? wrongSign : greatBlockPlace();
        }

        int wrongSignPlace(int members) {
            boolean naming = false;
            int digits = 0;
            for (int i = 0; i < length; i++) {
                int sign = signs.at(i);
                if (isDigit(sign) && (naming ? sign - '0' < members : digits < 3)) {
                    digits++;
                } else if (sign == (naming ? ';' : ':') && digits > 0) {
                    naming = !naming;
                    digits = 0;
                } else {
                    return i;
                }
            }
            return naming && digits > 0 ? -1 : length;
        }

        /** The place of the first block that is too great, in a text without a wrong sign, or -1. */
        int greatBlockPlace() {
            int start = 0;
            for (int i = 0; i < length; i++) {
                int sign = signs.at(i);
                if (sign == ';') {
                    start = i + 1;
                } else if (sign == ':' && numberFrom(start) >= MOST_BLOCKS) {
                    return start;
                }
            }
            return -1;
        }

        int numberFrom(int start) {
            int number = 0;
            for (int i = start; i < length && isDigit(signs.at(i)); i++) {
                number = number * 10 + signs.at(i) - '0';
            }
            return number;
        }

        /** Enters the losses of a right text and answers how many of them are new. */
        int enterLosses(Row lost) {
            int fresh = 0;
            int block = numberFrom(0);
            boolean naming = false;
            for (int i = 0; i < length; i++) {
                int sign = signs.at(i);
                if (sign == ':') {
                    naming = true;
                } else if (sign == ';') {
                    naming = false;
                    block = numberFrom(i + 1);
                } else if (naming) {
                    int before = lost.at(block);
                    lost.put(block, before | (1 << (sign - '0')));
                    fresh += lost.at(block) == before ? 0 : 1;
                }
            }
            return fresh;
        }
    }

    /** The latest states; its objects are made once and written over. */
    private static final class History {
        int count;
        int oldest;
        final State[] states = new State[MOST_STATES];

        History() {
            for (int i = 0; i < states.length; i++) {
                states[i] = new State();
            }
        }

        void keep(State state) {
            State free = stateAt(count);
            if (free != null) {
                free.copy(state);
            }
            if (count < MOST_STATES) {
                count++;
            } else {
                oldest = (oldest + 1) % MOST_STATES;
            }
        }

        void giveBack(State state) {
            State latest = stateAt(count - 1);
            if (latest != null) {
                state.copy(latest);
                count--;
            }
        }

        State stateAt(int age) {
            int place = (oldest + age) % MOST_STATES;
            return place >= 0 && place < states.length ? states[place] : null;
        }
    }
}
