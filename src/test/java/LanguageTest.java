import java.io.IOException;
import java.lang.management.ManagementFactory;
import java.lang.reflect.Constructor;
import java.lang.reflect.Field;
import java.lang.reflect.Method;
import java.lang.reflect.Modifier;
import java.nio.charset.StandardCharsets;
import java.nio.file.Files;
import java.nio.file.Path;
import java.util.Arrays;
import java.util.Set;
import java.util.TreeSet;
import java.util.regex.Matcher;
import java.util.regex.Pattern;

/** The class's face, and the rules of LANGUAGE.md that its text and its running can show. */
public final class LanguageTest {
    private static final String[] FACE = {
        "boolean person(int,int)", "boolean chore(int,int)", "boolean rain(int)", "int feed(int,int,int,int,int)", "int law(int)",
        "int doers(int)", "int leaves(int)", "int home()", "int days(int)", "int tried(int,int)", "int personIs(int,int)",
        "int choreIs(int,int)", "int cost(int,int)", "int missed(int,int)", "int together(int,int,int)",
        "int share(int,int,int,int)", "int spoilt(int,int,int)", "int when(int,int,int,int)", "int against(int,int,int,int,int)",
        "int stopped(int)", "int holds(int,int,int)", "int mayor(int,int)", "int standIn(int,int,int,int)",
        "int hired(int,int,int,int)", "int mustStay(int,int)", "int halfDone(int,int)", "int byTurns(int,int,int)",
        "int firstDoer(int,int,int)", "boolean seed(int)", "int keep()", "boolean undo()", "int check(int)", "int count(int)"};

    private static final String[] FORBIDDEN = {
        "\\bthrow\\b", "\\btry\\b", "\\bcatch\\b", "\\bsynchronized\\b", "\\bassert\\b", "->", "::", "\\bstatic\\s*\\{", "Exact\\b",
        "\\bjava\\.(?!util\\.Arrays;)", "\\bSystem\\.(?!arraycopy\\b)", "\\bMath\\.(?!min\\b|max\\b|abs\\b)", "\\bhashCode\\b",
        "\\btoString\\b", "\\bObject\\b", "\\bvar\\b", "\\bLong\\b", "\\bDouble\\b", "\\bprotected\\b", "\\bvolatile\\b", "\\bnative\\b"};

    private LanguageTest() {
    }

    public static void main(String[] args) throws Exception {
        face();
        Path document = Path.of("../shared/DOC.md");
        if (Files.exists(document)) {
            faceOf(document);
        }
        String source = Files.readString(Path.of("src/main/java/MissedTown.java"), StandardCharsets.ISO_8859_1);
        text(source);
        shape(withoutComments(source));
        room();
        Checks.end();
    }

    private static void face() {
        Class<?> type = MissedTown.class;
        Checks.due("public and final", type.getModifiers(), Modifier.PUBLIC | Modifier.FINAL);
        Set<String> found = new TreeSet<>();
        Set<String> names = new TreeSet<>();
        for (Method method : type.getDeclaredMethods()) {
            if (Modifier.isPublic(method.getModifiers())) {
                String parameters = Arrays.toString(method.getParameterTypes()).replaceAll("[\\[\\] ]", "");
                found.add(method.getReturnType() + " " + method.getName() + "(" + parameters + ")");
                names.add(method.getName());
            }
        }
        Set<String> wanted = new TreeSet<>(Arrays.asList(FACE));
        if (!found.equals(wanted)) {
            Checks.fail("the face is " + found);
        }
        for (Method method : type.getDeclaredMethods()) {
            boolean isPublic = Modifier.isPublic(method.getModifiers());
            Checks.due(method.getName() + " is public or private", isPublic || Modifier.isPrivate(method.getModifiers()), true);
            Checks.due(method.getName() + " has its own name", isPublic || !names.contains(method.getName()), true);
        }
        for (Field field : type.getDeclaredFields()) {
            boolean isConstant = field.getName().equals("NONE") && Modifier.isPublic(field.getModifiers());
            Checks.due(field.getName() + " is private", isConstant || Modifier.isPrivate(field.getModifiers()), true);
        }
        for (Constructor<?> constructor : type.getDeclaredConstructors()) {
            Checks.due("parameters of the constructor", constructor.getParameterCount(), 0);
        }
        Checks.due("no class above", type.getSuperclass() == Object.class && type.getInterfaces().length == 0, true);
        for (Class<?> inside : type.getDeclaredClasses()) {
            Checks.due(inside.getName() + " is static", Modifier.isStatic(inside.getModifiers()), true);
            for (Method method : inside.getDeclaredMethods()) {
                Checks.due(method + " has its own name", names.contains(method.getName()), false);
            }
            for (Field field : inside.getDeclaredFields()) {
                int how = field.getModifiers();
                Checks.due(field + " is final if static", !Modifier.isStatic(how) || Modifier.isFinal(how), true);
            }
        }
        Checks.due("at most twelve classes", type.getDeclaredClasses().length < 12, true);
    }

    /** The list above is the document's own. */
    private static void faceOf(Path document) throws IOException {
        Set<String> told = new TreeSet<>();
        Matcher row = Pattern.compile("(?m)^    public (int|boolean) (\\w+)\\(([^)]*)\\);$").matcher(Files.readString(document, StandardCharsets.UTF_8));
        while (row.find()) {
            told.add(row.group(1) + " " + row.group(2) + "(" + row.group(3).replaceAll("int \\w+", "int").replace(" ", "") + ")");
        }
        if (!told.equals(new TreeSet<>(Arrays.asList(FACE)))) {
            Checks.fail("the document's face is " + told);
        }
        Checks.due("calls of the document's face", told.size(), 33);
    }

    private static String withoutComments(String source) {
        String plain = source.replaceAll("(?s)/\\*.*?\\*/", "").replaceAll("//[^\n]*", "");
        return plain.replaceAll("'[^'\n]'", "' '").replaceAll("\"[^\"\n]*\"", "\"\"");
    }

    private static void text(String source) {
        for (int k = 0; k < source.length(); k++) {
            if (source.charAt(k) > 126 || source.charAt(k) < 32 && source.charAt(k) != '\n') {
                Checks.fail("sign " + (int) source.charAt(k) + " at " + k);
            }
        }
        String plain = withoutComments(source);
        for (String pattern : FORBIDDEN) {
            Matcher found = Pattern.compile(pattern).matcher(plain);
            Checks.due("found " + pattern, found.find(), false);
        }
    }

    /** Methods of at most some sixty lines, and of at most seven parameters. */
    private static void shape(String plain) {
        int start = 0;
        int line = 0;
        for (String row : plain.split("\n", -1)) {
            line++;
            if (row.matches("\\s{4,8}(public |private )?(static )?(int|boolean|void|String|[A-Z]\\w+)? ?\\w+\\(.*\\) \\{")) {
                start = line;
                Checks.due("parameters at line " + line, row.split(",").length <= 7, true);
            }
            if (row.matches("\\s{4,8}\\}")) {
                Checks.due("lines of the method at line " + start, line - start <= 60, true);
            }
        }
    }

    /** Calls make no objects: all rows stand from the constructor on. */
    private static void room() {
        com.sun.management.ThreadMXBean bean =
                (com.sun.management.ThreadMXBean) ManagementFactory.getThreadMXBean();
        long thread = Thread.currentThread().getId();
        MissedTown warm = PromisesTest.three("a0-3,b1-4,c2-5");
        everyCall(warm);
        long start = bean.getThreadAllocatedBytes(thread);
        long empty = bean.getThreadAllocatedBytes(thread) - start;
        MissedTown x = PromisesTest.three("a0-3,b1-4,c2-5");
        long before = bean.getThreadAllocatedBytes(thread);
        everyCall(x);
        long made = bean.getThreadAllocatedBytes(thread) - before - empty;
        Checks.due("bytes that the calls made (some are the measure's own)", made < 2000, true);
        long one = bean.getThreadAllocatedBytes(thread);
        MissedTown[] many = new MissedTown[100];
        for (int k = 0; k < many.length; k++) {
            many[k] = new MissedTown();
        }
        long each = (bean.getThreadAllocatedBytes(thread) - one) / many.length;
        Checks.due("bytes of an object", each < 12000, true);
    }

    private static void everyCall(MissedTown x) {
        for (int k = 0; k < 5; k++) {
            x.tried(9, k);
            x.cost(5, 9);
            x.missed(k, 9);
            x.together(0, 1, 9);
            x.share(7, 1, 9, k % 3);
            x.spoilt(1, 10, 9);
            x.when(1, 3, 9, 0);
            x.against(0, 1, 3, 2, 0);
            x.feed(0, 0, 0, 0, 0);
            x.stopped(3);
            x.holds(4, 999, 0);
            x.mayor(9, 0);
            x.standIn(0, 1, 12, 9);
            x.hired(9, 7, 9, 10);
            x.mustStay(9, 1);
            x.halfDone(2, 1);
            x.byTurns(7, 2, 10);
            x.firstDoer(1, 9, 0);
            x.keep();
            x.days(1);
            x.undo();
            x.feed(0x6d312869, 0x3d30293b, 0x6b287528, 0, 0);
            x.law(7);
            x.feed(0x303a6162, 0x3b313a62, 0, 0, 0);
            x.doers(8);
            x.feed(0x61302d31, 0x2c62312d, 0x32000000, 0, 0);
            x.leaves(9);
            x.feed(0, 0, 0, 0, 0);
            x.check(5);
            x.count(4);
        }
    }
}
