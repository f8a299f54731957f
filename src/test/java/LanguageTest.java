import java.lang.reflect.Constructor;
import java.lang.reflect.Field;
import java.lang.reflect.Method;
import java.lang.reflect.Modifier;
import java.nio.file.Files;
import java.nio.file.Path;
import java.util.Arrays;
import java.util.TreeSet;
import java.util.regex.Matcher;
import java.util.regex.Pattern;

/** The public face, and what can be told from outside of the rules in LANGUAGE.md. */
public final class LanguageTest {
    private static final String[] FACE = {
        "int about(int)", "int bestWait()", "int change(int,int,int)", "int clear()", "int commit(int,int)",
        "int draw()", "int duty(int)", "int ifLeft(int,int)", "int join(int,int)", "int live(int,boolean)",
        "int look(int,int,int)", "int lose(int,int)", "int lost(int,int)", "int member(int,int)", "int mix(int)",
        "int past(int,int)", "int read()", "int repair(int)", "int repairAll()", "int reveal(int,int)",
        "int set(int,int)", "int type(int)", "int undo()", "int why(int)", "long fingerprint()", "long seed()",
        "float silence()"};

    // No word that leads outside the language, and nothing that catches what the machine throws.
    private static final String[] FORBIDDEN = {
        "\\bcatch\\b", "\\btry\\b", "\\bfinally\\b", "\\bimport\\b", "\\bpackage\\b", "->", "::", "\\bsynchronized\\b",
        "\\bassert\\b", "\\bThread\\b", "\\bSystem\\.(?!arraycopy)", "\\brandom", "\\bhashCode\\b", "\\btoString\\b",
        "\\bstatic\\s*\\{", "\\bprotected\\b", "\\bExact\\b", "\\w+Exact\\("};

    public static void main(String[] args) throws Exception {
        face();
        words();
        sizes();
        room();
        Checks.end();
    }

    private static void face() {
        Class<?> program = RepairDuty.class;
        Checks.due("public and final", program.getModifiers() & (Modifier.PUBLIC | Modifier.FINAL),
            Modifier.PUBLIC | Modifier.FINAL);
        TreeSet<String> methods = new TreeSet<>();
        TreeSet<String> names = new TreeSet<>();
        for (Method method : program.getDeclaredMethods()) {
            if (!Modifier.isPrivate(method.getModifiers())) {
                String types = Arrays.toString(method.getParameterTypes()).replaceAll("[\\[\\] ]", "");
                methods.add(method.getReturnType() + " " + method.getName() + "(" + types + ")");
                names.add(method.getName());
            }
        }
        Checks.holds("the methods are those of the face: " + methods,
            methods.equals(new TreeSet<>(Arrays.asList(FACE))));
        for (Method method : program.getDeclaredMethods()) {
            Checks.holds("no private method bears a public name: " + method,
                !Modifier.isPrivate(method.getModifiers()) || !names.contains(method.getName()));
        }
        TreeSet<String> constants = new TreeSet<>();
        for (Field field : program.getDeclaredFields()) {
            if (!Modifier.isPrivate(field.getModifiers())) {
                constants.add(field.toString().replace("RepairDuty.", ""));
            }
        }
        Checks.holds("the constants are those of the face: " + constants, constants.toString().equals(
            "[public static final int BAD, public static final int FULL, public static final int NONE, "
                + "public static final int STATE]"));
        Constructor<?>[] constructors = program.getDeclaredConstructors();
        Checks.due("constructors", constructors.length, 1);
        Checks.due("its parameters", constructors[0].getParameterCount(), 0);
        for (Class<?> inside : program.getDeclaredClasses()) {
            Checks.holds(inside + " is private and static",
                Modifier.isPrivate(inside.getModifiers()) && Modifier.isStatic(inside.getModifiers()));
        }
    }

    private static String source() throws Exception {
        String all = Files.readString(Path.of("src/main/java/RepairDuty.java"));
        return all.replaceAll("(?s)/\\*.*?\\*/", "").replaceAll("//[^\n]*", "");
    }

    private static void words() throws Exception {
        String source = source();
        for (String word : FORBIDDEN) {
            Matcher matcher = Pattern.compile(word).matcher(source);
            Checks.holds("no " + word, !matcher.find());
        }
        Checks.holds("only plain signs", source.chars().allMatch(c -> c < 127));
    }

    private static void sizes() {
        Class<?>[] inside = RepairDuty.class.getDeclaredClasses();
        Checks.holds("at most twelve classes", inside.length + 1 <= 12);
        for (Class<?> one : inside) {
            long fields = Arrays.stream(one.getDeclaredFields())
                .filter(field -> !Modifier.isStatic(field.getModifiers())).count();
            Checks.holds("at most twenty fields in " + one, fields <= 20);
            for (Method method : one.getDeclaredMethods()) {
                Checks.holds("at most seven parameters of " + method, method.getParameterCount() <= 7);
            }
        }
    }

    /** The room is for a whole run; the calls make no objects, and the slack here is the measuring's own. */
    private static void room() {
        com.sun.management.ThreadMXBean threads =
            (com.sun.management.ThreadMXBean) java.lang.management.ManagementFactory.getThreadMXBean();
        callAll(new RepairDuty());
        long before = threads.getCurrentThreadAllocatedBytes();
        RepairDuty group = new RepairDuty();
        long made = threads.getCurrentThreadAllocatedBytes();
        callAll(group);
        long called = threads.getCurrentThreadAllocatedBytes();
        Checks.holds("bytes of a new object: " + (made - before), made - before < 50000);
        Checks.holds("bytes of some 140 calls: " + (called - made), called - made < 500);
    }

    private static void callAll(RepairDuty group) {
        for (int i = 0; i < 5; i++) {
            group.join(i + 1, 100 * i);
        }
        for (int member = 0; member < 2; member++) {
            group.commit(member, group.mix(member));
            group.reveal(member, member);
        }
        group.ifLeft(0, 0);
        group.draw();
        for (int block = 0; block < 40; block++) {
            group.lose(block % 5, block);
            group.lose(block % 3, block);
            group.look(block, 0, 2);
        }
        group.type('9');
        group.type(':');
        group.type('0');
        group.read();
        group.repair(7);
        group.bestWait();
        group.repairAll();
        group.silence();
        group.fingerprint();
        group.undo();
    }
}
