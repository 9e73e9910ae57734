import java.lang.management.ManagementFactory;
import java.lang.reflect.Constructor;
import java.lang.reflect.Field;
import java.lang.reflect.Method;
import java.lang.reflect.Modifier;
import java.nio.file.Files;
import java.nio.file.Path;
import java.util.Arrays;
import java.util.Set;
import java.util.TreeSet;
import java.util.regex.Matcher;
import java.util.regex.Pattern;
import java.util.stream.Collectors;

/** The document's face, the rules of LANGUAGE.md that can be looked up, and what a run of calls makes. */
public final class RulesTest {
    private static final Checks CHECKS = new Checks();

    public static void main(String[] args) throws Exception {
        Path source = Path.of(System.getProperty("hidereader.source", "src/main/java/HideReader.java"));
        String code = Files.readString(source).replaceAll("(?s)/\\*.*?\\*/", "").replaceAll("//[^\n]*", "");
        face(Files.readString(Path.of("../shared/DOC.md")));
        classes();
        words(code);
        lengths(code);
        nothingIsMade();
        CHECKS.close("RulesTest");
    }

    /** Each member of the document's face as one text, and those of the class likewise. */
    private static void face(String document) {
        Matcher block = Pattern.compile("(?s)## The public face\\s+```java(.*?)```").matcher(document);
        CHECKS.due("the document has a face", block.find(), true);
        Set<String> due = new TreeSet<>();
        Matcher line = Pattern.compile("public (\\w+) (\\w+)\\(([^)]*)\\);").matcher(block.group(1));
        while (line.find()) {
            String types = line.group(3).isEmpty() ? "" : Arrays.stream(line.group(3).split(", ")).map(p -> p.split(" ")[0]).collect(Collectors.joining(","));
            due.add(line.group(1) + " " + line.group(2) + "(" + types + ")");
        }
        Set<String> got = new TreeSet<>();
        for (Method m : HideReader.class.getDeclaredMethods()) {
            if (!Modifier.isPrivate(m.getModifiers())) {
                String types = Arrays.stream(m.getParameterTypes()).map(Class::getName).collect(Collectors.joining(","));
                got.add(m.getReturnType().getName() + " " + m.getName() + "(" + types + ")");
                CHECKS.due(m.getName() + " is public and no static", Modifier.isPublic(m.getModifiers()) && !Modifier.isStatic(m.getModifiers()), true);
            }
        }
        CHECKS.due("members of the face " + due + " are " + got, due.equals(got), true);
        CHECKS.due("methods of the face", got.size(), 54);
        CHECKS.due("the class is public and final", HideReader.class.getModifiers(), Modifier.PUBLIC | Modifier.FINAL);
        Constructor<?>[] makers = HideReader.class.getDeclaredConstructors();
        CHECKS.due("one constructor", makers.length, 1);
        CHECKS.due("without parameters, public", makers[0].getParameterCount() == 0 && Modifier.isPublic(makers[0].getModifiers()), true);
        for (Field f : HideReader.class.getDeclaredFields()) {
            CHECKS.due("field " + f.getName() + " is private", Modifier.isPrivate(f.getModifiers()), !f.getName().equals("NONE"));
        }
    }

    private static void classes() {
        Class<?>[] inside = HideReader.class.getDeclaredClasses();
        CHECKS.due("twelve classes at most", inside.length < 12, true);
        Set<String> faceNames = Arrays.stream(HideReader.class.getDeclaredMethods()).filter(m -> Modifier.isPublic(m.getModifiers()))
            .map(Method::getName).collect(Collectors.toSet());
        for (Class<?> c : inside) {
            CHECKS.due(c + " is static", Modifier.isStatic(c.getModifiers()), true);
            CHECKS.due(c + " is not public", Modifier.isPublic(c.getModifiers()) || Modifier.isProtected(c.getModifiers()), false);
            for (Method m : c.getDeclaredMethods()) {
                CHECKS.due(c + "." + m.getName() + " bears a name of the face", faceNames.contains(m.getName()), false);
                CHECKS.due(c + "." + m.getName() + " has few parameters", m.getParameterCount() <= 7, true);
            }
            long fields = Arrays.stream(c.getDeclaredFields()).filter(f -> !Modifier.isStatic(f.getModifiers())).count();
            CHECKS.due(c + " has twenty fields at most", fields <= 20, true);
        }
        for (Class<?> c : inside) {
            for (Field f : c.getDeclaredFields()) {
                boolean isConstant = Modifier.isFinal(f.getModifiers()) && Set.of("int", "long", "boolean", "char", "java.lang.String").contains(f.getType().getName());
                CHECKS.due(c + "." + f.getName() + " is a constant or no static", !Modifier.isStatic(f.getModifiers()) || isConstant, true);
            }
        }
    }

    private static void words(String code) {
        String[] ruledOut = {"\\bthrow\\b", "\\btry\\b", "\\bcatch\\b", "\\bsynchronized\\b", "\\bassert\\b", "->", "::", "\\bprotected\\b", "\\bpackage\\b",
            "\\bstatic\\s*\\{", "Exact\\(", "\\bdouble\\b", "\\bSystem\\.(?!arraycopy)", "\\bequals\\b", "\\bhashCode\\b", "\\btoString\\b", "\\bRandom\\b",
            "\\bwhile \\(true\\)", "\\bfor \\(;;", "\"\\s*\\+", "\\+\\s*\""};
        for (String word : ruledOut) {
            CHECKS.due("the class has " + word, Pattern.compile(word).matcher(code).find(), false);
        }
        Matcher imports = Pattern.compile("import ([^;]+);").matcher(code);
        while (imports.find()) {
            CHECKS.due("import " + imports.group(1), imports.group(1).equals("java.util.Arrays"), true);
        }
        CHECKS.due("signs beyond 127", code.chars().anyMatch(c -> c > 127), false);
    }

    /** Methods are told by their indentation: the brace that ends one stands under its first letter. */
    private static void lengths(String code) {
        Matcher method = Pattern.compile("(?m)^( +)(?:[\\w\\[\\]]+ )*[\\w\\[\\]]+ ?\\w*\\([^;{]*\\) \\{\n((?:.*\n)*?)\\1\\}").matcher(code);
        int count = 0;
        while (method.find()) {
            count++;
            CHECKS.due("a method of few lines: " + method.group().lines().findFirst().orElse(""), method.group().lines().count() <= 60, true);
        }
        CHECKS.due("methods were found", count > 150, true);
    }

    /** All calls of a run live in one room, so that only the constructor makes anything. */
    private static void nothingIsMade() {
        long before = 0;
        HideReader reader = null;
        com.sun.management.ThreadMXBean threads = (com.sun.management.ThreadMXBean) ManagementFactory.getThreadMXBean();
        long id = Thread.currentThread().getId();
        for (int round = 0; round < 3; round++) {
            reader = Checks.told("turns 4;mirror;herd a strokes 0;herd b strokes 0 1 2 3 4 5 6 7 8 9 10 11;iron i strokes 0;iron j strokes 2 6;"
                + "beast x of a born 3;beast y of b;shows age < 5;night 50;");
            Checks.feed(reader, "turns 4;herd a strokes 0;iron i strokes 2;beast x of a;");
            before = threads.getThreadAllocatedBytes(id);
            callAll(reader);
        }
        long made = threads.getThreadAllocatedBytes(id) - before;
        CHECKS.due("bytes made by calls: " + made, made < 2000, true);
        before = threads.getThreadAllocatedBytes(id);
        reader = new HideReader();
        made = threads.getThreadAllocatedBytes(id) - before;
        CHECKS.due("bytes made by a constructor: " + made, made < 70000 && reader.about(0) == 0, true);
    }

    private static void callAll(HideReader r) {
        for (int i = -1; i < 5; i++) {
            r.season(); r.burn(i, 0, i); r.sell(i, 1); r.clean(i); r.undo(); r.redo(); r.make(i, 4095); r.forge(i, 1); r.chain(); r.lowest();
            r.highest(); r.fresh(); r.origins(i); r.read(i); r.claim(i); r.safe(); r.king(i); r.tempt(i, 0); r.useful(); r.nearest(i, 0);
            r.shared(0, i); r.fades(i); r.twins(); r.untouched(); r.tells(); r.raid(0, i); r.closed(); r.faces(i); r.norm(i); r.strays();
            r.oldest(i); r.will(i); r.law(i); r.odds(i, 0); r.lies(i); r.seen(1, i, true); r.untell(i); r.later(i); r.rows(i); r.sure(1, i);
            r.ask(0, i); r.image(i); r.back(i); r.about(i); r.brand(i); r.iron(i); r.beast(i, 1); r.age(i, 0); r.placed(i, 1); r.under(i, 3); r.fault(0);
        }
        r.valley();
        r.feed(0, 0, 0, 0, 0);
        r.end(3);
        r.valley();
    }
}
