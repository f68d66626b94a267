import java.lang.reflect.Constructor;
import java.lang.reflect.Field;
import java.lang.reflect.Method;
import java.lang.reflect.Modifier;
import java.io.IOException;
import java.nio.file.Files;
import java.nio.file.Path;
import java.util.Arrays;
import java.util.List;
import java.util.Set;
import java.util.TreeSet;
import java.util.regex.Matcher;
import java.util.regex.Pattern;

/** The face is the document's, and the source stays within those rules of LANGUAGE.md that can be read off it. */
public final class LanguageTest {
    private static final String FACE =
        "int tell 4,int read 3,int watch 3,int set 2,int known 2,int over 2,long rare 3,int soRare 1,int rank 1,"
        + "long again 4,int lasts 2,long next 4,long between 4,int records 1,int rises 0,long change 2,int changed 1,"
        + "int sister 2,int common 1,int filled 2,int type 1,int wipe 0,int fault 0,long flow 2,long dyke 2,int best 0,"
        + "int sure 1,int sheet 3,int lose 1,int lay 4,int get 3,int copy 5,int write 2,int count 1,long digest 0";
    private static final List<String> FORBIDDEN = List.of(
        "throw", "throws", "try", "catch", "finally", "synchronized", "assert", "System.out", "System.err", "Random",
        "Thread", "hashCode", "toString", "equals", "native", "volatile", "package", "->", "::", "@");

    private LanguageTest() {
    }

    public static void main(String[] args) throws IOException {
        face();
        String path = args.length > 0 ? args[0] : "src/main/java/WallMarks.java";
        String source = withoutComments(Files.readString(Path.of(path)));
        words(source);
        library(source);
        methods(source);
        room();
        Due.end();
    }

    private static void face() {
        Class<?> c = WallMarks.class;
        Due.is("class", c.getModifiers(), Modifier.PUBLIC | Modifier.FINAL);
        Set<String> due = new TreeSet<>(Arrays.asList(FACE.split(",")));
        Set<String> got = new TreeSet<>();
        Set<String> publicNames = new TreeSet<>();
        for (Method m : c.getDeclaredMethods()) {
            if (Modifier.isPublic(m.getModifiers())) {
                got.add(m.getReturnType() + " " + m.getName() + " " + m.getParameterCount());
                publicNames.add(m.getName());
                Due.is("modifiers of " + m.getName(), m.getModifiers(), Modifier.PUBLIC);
                for (Class<?> type : m.getParameterTypes()) {
                    Due.yes("int for " + m.getName(), type == int.class);
                }
            }
        }
        Due.yes("face " + got, got.equals(due));
        for (Method m : c.getDeclaredMethods()) {
            boolean hidden = Modifier.isPrivate(m.getModifiers()) && !publicNames.contains(m.getName());
            Due.yes("private, with a name of its own: " + m, hidden || Modifier.isPublic(m.getModifiers()));
            Due.yes("at most seven parameters: " + m, m.getParameterCount() <= 7);
        }
        constructorsAndFields(c);
        Due.yes("at most twelve classes", c.getDeclaredClasses().length <= 11);
        for (Class<?> inside : c.getDeclaredClasses()) {
            Due.yes("static: " + inside, Modifier.isStatic(inside.getModifiers()) && !Modifier.isPublic(inside.getModifiers()));
            for (Method m : inside.getDeclaredMethods()) {
                Due.yes("no name of the face: " + m, !publicNames.contains(m.getName()));
            }
        }
    }

    private static void constructorsAndFields(Class<?> c) {
        for (Constructor<?> made : c.getDeclaredConstructors()) {
            Due.yes("constructor", Modifier.isPublic(made.getModifiers()) && made.getParameterCount() == 0);
        }
        int constants = 0;
        int own = 0;
        for (Field f : c.getDeclaredFields()) {
            if (Modifier.isPublic(f.getModifiers())) {
                constants++;
            } else {
                Due.yes("private: " + f, Modifier.isPrivate(f.getModifiers()));
            }
            if (Modifier.isStatic(f.getModifiers())) {
                Due.yes("final: " + f, Modifier.isFinal(f.getModifiers()));
            } else {
                own++;
            }
        }
        Due.is("public constants", constants, 4);
        Due.yes("at most twenty fields", own <= 20);
    }

    private static String withoutComments(String source) {
        return source.replaceAll("(?s)/\\*.*?\\*/", "").replaceAll("//[^\n]*", "");
    }

    private static void words(String source) {
        for (String word : FORBIDDEN) {
            boolean letters = Character.isLetter(word.charAt(0));
            Pattern p = Pattern.compile(letters ? "\\b" + Pattern.quote(word) + "\\b" : Pattern.quote(word));
            Due.yes("no " + word, !p.matcher(source).find());
        }
        for (char c : source.toCharArray()) {
            Due.yes("sign " + (int) c, c < 128);
        }
    }

    private static void library(String source) {
        Matcher imports = Pattern.compile("(?m)^import (.*);").matcher(source);
        while (imports.find()) {
            Due.yes("import " + imports.group(1), imports.group(1).equals("java.util.Arrays"));
        }
        Set<String> may = Set.of("Arrays.fill", "Arrays.copyOf", "Arrays.copyOfRange", "Math.abs", "Math.min", "Math.max",
            "System.arraycopy");
        Matcher uses = Pattern.compile("\\b(Arrays|Math|System|Integer|Long)\\.\\w+").matcher(source);
        while (uses.find()) {
            boolean imported = source.startsWith("java.util.", Math.max(0, uses.start() - 10));
            Due.yes("library: " + uses.group(), imported || may.contains(uses.group()));
        }
    }

    /** Methods stay short; one that calls itself by its own name is private and static. */
    private static void methods(String source) {
        Matcher header = Pattern.compile("( {4}| {8})(?:[\\w\\[\\]]+ )+(\\w+)\\([^()]*\\) \\{").matcher("");
        String[] lines = source.split("\n");
        int start = -1;
        int seen = 0;
        for (int i = 0; i < lines.length; i++) {
            if (start < 0 && header.reset(lines[i]).matches()) {
                start = i;
                seen++;
            } else if (start >= 0 && lines[i].equals(header.group(1) + "}")) {
                Due.yes("sixty lines at most: " + lines[start], i - start < 60);
                start = -1;
            } else if (start >= 0 && lines[i].matches(".*(?<![.\\w])" + header.group(2) + "\\(.*")) {
                Due.yes("calls itself: " + lines[start], lines[start].startsWith("    private static "));
            }
        }
        Due.yes("all methods are seen, to their ends: " + seen, seen > 100 && start < 0);
    }

    /** All calls of a run share one room: an object takes little of it, and calls take nothing. */
    private static void room() {
        com.sun.management.ThreadMXBean threads =
            (com.sun.management.ThreadMXBean) java.lang.management.ManagementFactory.getThreadMXBean();
        long id = Thread.currentThread().getId();
        everyCall(new WallMarks());
        threads.getThreadAllocatedBytes(id);
        long before = threads.getThreadAllocatedBytes(id);
        WallMarks x = new WallMarks();
        long made = threads.getThreadAllocatedBytes(id);
        long sum = everyCall(x);
        long called = threads.getThreadAllocatedBytes(id);
        Due.yes("an object's room: " + (made - before), made - before < 10000);
        Due.is("the calls' room (" + sum + ")", called - made, 0);
    }

    private static long everyCall(WallMarks x) {
        long sum = 0;
        for (int year = 0; year < 12; year++) {
            sum += x.tell(year, 0, year * 37 % 100, 0) + x.sister(year, year * 11 % 50);
        }
        sum += x.watch(0, 20, 80) + x.set(2, 40) + x.known(5, 0) + x.over(50, 1) + x.rare(50, 2, 0) + x.soRare(10);
        sum += x.rank(3) + x.again(15, 3, 2, 0) + x.lasts(3, 200) + x.next(20, 10, 5, 0) + x.between(7, 3, 9, 0);
        sum += x.records(3) + x.rises() + x.change(6, 0) + x.changed(0) + x.changed(1) + x.common(1) + x.filled(30, 0);
        for (int b : FLOWS) {
            sum += x.type(b);
        }
        sum += x.fault() + x.flow(15, 0) + x.dyke(10, 0) + x.best() + x.sure(20) + x.sheet(0, 0, 20) + x.sheet(1, 0, 60);
        sum += x.lay(0, 0, 3, 8) + x.get(0, 0, 3) + x.copy(0, 0, 1, 5, 10) + x.write(0, 1) + x.read(0, 20, 1);
        return sum + x.lose(1) + x.count(2) + x.digest() + x.wipe();
    }

    private static final int[] FLOWS = {'1', ':', '1', ';', '2', '0', ':', '5', '0'};
}
