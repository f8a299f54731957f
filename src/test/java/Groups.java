/** Groups to test with, and the document's reckoning written out once more, apart from the program. */
final class Groups {
    static final int BAD = -1000001;
    static final int STATE = -1000002;
    static final int FULL = -1000003;
    static final int NONE = -1000009;
    static final long NO_SEED = -4611686018427387905L;

    private Groups() {
    }

    static int mix(int x) {
        int y = x * 1103515245 + 12345;
        y = y ^ (y >>> 15);
        return y * 1103515245 + 12345;
    }

    /** The lot of m that is drawn first from a state. */
    static int lot(int state, int m) {
        return (mix(state) >>> 16) % m;
    }

    static int waitOf(long seed, int block, int member, int setting) {
        return lot(mix((int) seed ^ (1000 * block + member)), setting);
    }

    /** A group of members with the weights 1, 2, 3 .. and the positions given. */
    static RepairDuty at(int... positions) {
        RepairDuty group = new RepairDuty();
        for (int i = 0; i < positions.length; i++) {
            group.join(i % 9 + 1, positions[i]);
        }
        return group;
    }

    static int commitAndReveal(RepairDuty group, int member, int secret) {
        group.commit(member, mix(secret));
        return group.reveal(member, secret);
    }

    /** Draws a round from the secrets of the members 0 and 1. */
    static RepairDuty drawn(RepairDuty group, int secret0, int secret1) {
        commitAndReveal(group, 0, secret0);
        commitAndReveal(group, 1, secret1);
        group.draw();
        return group;
    }

    /** The list as the document draws it: from a seed and weights. */
    static int[] list(int seed, int... weights) {
        int[] left = weights.clone();
        int[] list = new int[weights.length];
        int state = seed;
        for (int rank = 0; rank < list.length; rank++) {
            int sum = 0;
            for (int weight : left) {
                sum += weight;
            }
            state = mix(state);
            int lot = (state >>> 16) % sum;
            int member = 0;
            int soFar = left[0];
            while (soFar <= lot) {
                member++;
                soFar += left[member];
            }
            list[rank] = member;
            left[member] = 0;
        }
        return list;
    }

    static void type(RepairDuty group, String text) {
        for (int i = 0; i < text.length(); i++) {
            group.type(text.charAt(i));
        }
    }

    /** What read() answers to a text; the buffer is empty then. */
    static int readOf(RepairDuty group, String text) {
        group.clear();
        type(group, text);
        int answer = group.read();
        group.clear();
        return answer;
    }

    /** How many states the history has; the group is another one then. */
    static int historyOf(RepairDuty group) {
        int left = group.undo();
        return left == NONE ? 0 : left + 1;
    }
}
