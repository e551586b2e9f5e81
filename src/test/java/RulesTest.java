import java.lang.management.ManagementFactory;
import java.lang.reflect.Constructor;
import java.lang.reflect.Field;
import java.lang.reflect.Method;
import java.lang.reflect.Modifier;
import java.nio.file.Files;
import java.nio.file.Path;
import java.util.ArrayList;
import java.util.Collections;
import java.util.List;
import java.util.Random;
import java.util.regex.Matcher;
import java.util.regex.Pattern;

/** What can be seen of the rules of LANGUAGE.md from outside, and how much room a run takes. */
public final class RulesTest {
    private static final Due DUE = new Due("RulesTest");

    private RulesTest() {
    }

    public static void main(String[] args) throws Exception {
        face();
        words();
        lengths();
        room();
        DUE.end();
    }

    private static void face() {
        Class<?> bench = LatticeBench.class;
        DUE.same("class", Modifier.toString(bench.getModifiers()), "public final");
        List<String> found = new ArrayList<>();
        for (Constructor<?> constructor : bench.getDeclaredConstructors()) {
            found.add(constructor.toString());
        }
        List<String> names = new ArrayList<>();
        for (Method method : bench.getDeclaredMethods()) {
            if (Modifier.isPublic(method.getModifiers())) {
                found.add(method.toString());
                names.add(method.getName());
            } else {
                DUE.yes("private: " + method, Modifier.isPrivate(method.getModifiers()));
            }
        }
        for (Field field : bench.getDeclaredFields()) {
            if (!Modifier.isPrivate(field.getModifiers())) {
                found.add(field.toString());
            }
            if (Modifier.isStatic(field.getModifiers())) {
                DUE.yes("final: " + field, Modifier.isFinal(field.getModifiers()));
            }
        }
        Collections.sort(found);
        DUE.same("the face", String.join("\n", found), String.join("\n", due()));
        for (Class<?> inside : bench.getDeclaredClasses()) {
            DUE.yes("static: " + inside, Modifier.isStatic(inside.getModifiers()));
            for (Method method : inside.getDeclaredMethods()) {
                DUE.no("name of a public method: " + method, names.contains(method.getName()));
            }
        }
        DUE.yes("classes", bench.getDeclaredClasses().length < 12);
    }

    private static List<String> due() {
        String[] face = {
            "int about(int,int)", "boolean add(int,int,boolean,int)", "int answer(int)",
            "boolean back(int)", "int bits(int,int,int)", "int both(int,int)", "int count(int)",
            "int dual(int)", "int get(int,int,int)", "int index(int,int)", "int join(int,int)",
            "int kernel(int)", "boolean leaf(int,int,int,int,int,int,int)", "int length(int,int)",
            "int order(int,int,int)", "boolean over(int,int)", "int quotient(int,int)",
            "int reach(int,int,int)", "int sign(int,int)", "int sizes(int)",
            "int solve(int,int,int)", "int stair(int)", "boolean table(int,int,int)",
            "boolean tear(int,int)", "boolean times(int,int,int)", "boolean turn(int,int)",
            "int within(int,int)", "int worth(int)"};
        List<String> out = new ArrayList<>();
        for (String method : face) {
            out.add("public " + method.replace(" ", " LatticeBench."));
        }
        out.add("public LatticeBench()");
        out.add("public static final int LatticeBench.NONE");
        Collections.sort(out);
        return out;
    }

    private static String source() throws Exception {
        String text = Files.readString(Path.of("src/main/java/LatticeBench.java"));
        return text.replaceAll("(?s)/\\*.*?\\*/", "").replaceAll("//[^\n]*", "");
    }

    private static void words() throws Exception {
        String text = source();
        for (String word : new String[] {"throw", "throws", "try", "catch", "synchronized", "assert",
            "package", "BigInteger", "System", "Object", "Thread", "Random", "equals", "hashCode",
            "toString", "protected", "volatile", "var", "yield"}) {
            DUE.no("word " + word, Pattern.compile("\\b" + word + "\\b").matcher(text).find());
        }
        DUE.no("lambda", text.contains("->"));
        DUE.no("method reference", text.contains("::"));
        Matcher imports = Pattern.compile("import ([^;]+);").matcher(text);
        while (imports.find()) {
            DUE.same("import", imports.group(1), "java.util.Arrays");
        }
        Matcher calls = Pattern.compile("\\b(Arrays|Math|Integer|Long)\\.(\\w+)").matcher(text);
        while (calls.find()) {
            DUE.no("exact: " + calls.group(), calls.group(2).endsWith("Exact"));
        }
    }

    private static void lengths() throws Exception {
        String[] lines = source().split("\n");
        int began = 0;
        for (int k = 0; k < lines.length; k++) {
            if (lines[k].matches(" {4}(| {4})[a-zA-Z].*\\(.*\\{")) {
                began = k;
            } else if (lines[k].matches(" {4}(| {4})\\}")) {
                DUE.yes("short: " + lines[began].trim(), k - began < 60);
            }
        }
    }

    /** Bytes are counted, 8 for each field or element at the most, 24 for each object. */
    private static void room() {
        com.sun.management.ThreadMXBean counter =
                (com.sun.management.ThreadMXBean) ManagementFactory.getThreadMXBean();
        long me = Thread.currentThread().getId();
        Random random = new Random(3);
        int[] calls = new int[5 * 512];
        for (int k = 0; k < calls.length; k++) {
            calls[k] = random.nextInt(2001) - 1000;
        }
        workHard(calls);
        long before = counter.getThreadAllocatedBytes(me);
        int answered = workHard(calls);
        long taken = counter.getThreadAllocatedBytes(me) - before;
        DUE.yes("the run worked", answered > 0);
        DUE.yes("a run of 512 dear calls takes " + taken + " bytes", taken < 400000);
    }

    /** 12 calls that fill two TABLES, then 500 that change a LEAF or tell as much as they can. */
    private static int workHard(int[] numbers) {
        LatticeBench x = new LatticeBench();
        int answered = 0;
        for (int t = 0; t < 2; t++) {
            x.table(t, 5, 5);
            for (int i = 0; i < 5; i++) {
                change(x, t, i, numbers, 5 * t + i);
            }
        }
        for (int k = 0; k < 500; k++) {
            int i = k / 14 % 5;
            switch (k % 14) {
                case 0:
                case 7:
                    change(x, k % 2, i, numbers, 10 + k);
                    break;
                case 1:
                case 8:
                    answered += x.both(0, 1);
                    break;
                case 2:
                    answered += x.quotient(0, 0);
                    break;
                case 3:
                    answered += x.sizes(0);
                    break;
                case 4:
                    answered += x.solve(0, 1, i);
                    break;
                case 5:
                    answered += x.order(0, 1, i);
                    break;
                case 6:
                    answered += x.dual(1);
                    break;
                case 9:
                    answered += x.join(0, 1);
                    break;
                case 10:
                    answered += x.kernel(0);
                    break;
                case 11:
                    answered += x.reach(1, 1, i);
                    break;
                case 12:
                    answered += x.index(0, 0);
                    break;
                default:
                    answered += x.stair(1);
                    break;
            }
        }
        return answered;
    }

    private static void change(LatticeBench x, int t, int i, int[] numbers, int which) {
        int at = 5 * which;
        x.leaf(t, i, numbers[at], numbers[at + 1], numbers[at + 2], numbers[at + 3], numbers[at + 4]);
    }
}
