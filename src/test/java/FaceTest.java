import java.lang.reflect.Field;
import java.lang.reflect.Method;
import java.lang.reflect.Modifier;
import java.nio.file.Files;
import java.nio.file.Path;
import java.util.ArrayDeque;
import java.util.Deque;
import java.util.HashSet;
import java.util.Set;
import java.util.TreeSet;
import java.util.regex.Matcher;
import java.util.regex.Pattern;

/** The public face, and those rules of LANGUAGE.md that can be seen without running the program. */
public final class FaceTest {
    private static final Due DUE = new Due();

    private static final String FACE = "feed(int,int,int,int,int)int end(int)int village()int rule()int tool(int,int)int "
            + "work(int,int)int house(int,int,int)int lend(int,int)int giveBack(int)int does(int)int "
            + "quarrel(int,int)boolean ring()int gift(int,int)int day()int undo()int run(int,int)int "
            + "chain(int,int,boolean,int)int match(int)int worth(int)int owner(int,int)int breaks(int)int rings(int)int "
            + "debt(int)int came(int,int)int done(int)int safe(int)int seed(int)int harvests(int,int,int)int "
            + "count(int)int image(int)int back(int)int";

    public static void main(String[] args) throws Exception {
        publicFace();
        members();
        source(args.length > 0 ? args[0] : "src/main/java/LentTools.java");
        DUE.close();
    }

    private static void holds(String what, boolean held) {
        DUE.is(what, held, true);
    }

    private static String signature(Method m) {
        StringBuilder b = new StringBuilder(m.getName()).append('(');
        for (Class<?> p : m.getParameterTypes()) b.append(b.charAt(b.length() - 1) == '(' ? "" : ",").append(p.getName());
        return b.append(')').append(m.getReturnType().getName()).toString();
    }

    private static void publicFace() {
        Set<String> due = new TreeSet<>(Set.of(FACE.split(" ")));
        Set<String> names = new HashSet<>();
        for (String s : due) names.add(s.substring(0, s.indexOf('(')));
        Set<String> got = new TreeSet<>();
        for (Method m : LentTools.class.getDeclaredMethods()) {
            if (Modifier.isPublic(m.getModifiers())) {
                got.add(signature(m));
            } else {
                holds("private: " + m, Modifier.isPrivate(m.getModifiers()));
                holds("another name: " + m, !names.contains(m.getName()));
            }
        }
        holds("the methods " + got, got.equals(due));
        holds("final", Modifier.isFinal(LentTools.class.getModifiers()));
        holds("one constructor", LentTools.class.getDeclaredConstructors().length == 1);
        for (Class<?> c : LentTools.class.getDeclaredClasses()) {
            holds("static: " + c, Modifier.isStatic(c.getModifiers()));
            for (Method m : c.getDeclaredMethods()) holds("another name: " + m, !names.contains(m.getName()));
        }
    }

    private static void members() {
        Deque<Class<?>> classes = new ArrayDeque<>(Set.of(LentTools.class));
        int count = 0;
        while (!classes.isEmpty()) {
            Class<?> c = classes.pop();
            classes.addAll(Set.of(c.getDeclaredClasses()));
            count++;
            int fields = 0;
            for (Field f : c.getDeclaredFields()) {
                if (Modifier.isStatic(f.getModifiers())) {
                    holds("final: " + f, Modifier.isFinal(f.getModifiers()));
                } else {
                    fields++;
                }
                if (c == LentTools.class) {
                    holds("private: " + f, Modifier.isPrivate(f.getModifiers()) || f.getName().equals("NONE"));
                }
            }
            holds("twenty fields: " + c + " " + fields, fields <= 20);
            for (Method m : c.getDeclaredMethods()) holds("seven parameters: " + m, m.getParameterCount() <= 7);
        }
        holds("twelve classes: " + count, count <= 12);
    }

    private static void source(String path) throws Exception {
        String text = Files.readString(Path.of(path));
        String code = text.replaceAll("(?s)/\\*.*?\\*/", "").replaceAll("//[^\n]*", "");
        for (String word : new String[] {"throw", "throws", "try", "catch", "synchronized", "assert", "package", "->", "::",
            "Exact(", "System.out", "toString", "hashCode", "Random", "Thread"}) {
            String pattern = Character.isLetter(word.charAt(0)) && !word.endsWith("(") ? "\\b" + word + "\\b" : Pattern.quote(word);
            holds("no " + word, !Pattern.compile(pattern).matcher(code).find());
        }
        Matcher imports = Pattern.compile("import ([^;]*);").matcher(code);
        while (imports.find()) holds("import " + imports.group(1), imports.group(1).equals("java.util.Arrays"));
        for (char c : text.toCharArray()) if (c > 126) holds("a sign above 126", false);
        int longest = 0;
        int from = -1;
        String[] lines = text.split("\n");
        for (int i = 0; i < lines.length; i++) {
            if (lines[i].matches("( {4}| {8})\\S.*\\) \\{") && !lines[i].contains(" class ")) from = i;
            if (from >= 0 && lines[i].matches(" {4}\\}| {8}\\}")) {
                longest = Math.max(longest, i - from + 1);
                from = -1;
            }
        }
        holds("sixty lines a method: " + longest, longest <= 60);
    }
}
