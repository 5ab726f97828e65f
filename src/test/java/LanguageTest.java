import java.io.IOException;
import java.lang.reflect.Constructor;
import java.lang.reflect.Field;
import java.lang.reflect.Method;
import java.lang.reflect.Modifier;
import java.nio.file.Files;
import java.nio.file.Path;
import java.util.Set;
import java.util.TreeSet;
import java.util.regex.Matcher;
import java.util.regex.Pattern;

/** What of ../shared/LANGUAGE.md can be seen from the file and from the classes made of it. */
public final class LanguageTest {
    private static final Set<String> CALLS = Set.of(
        "corner()", "street(int,int,int)", "shut(int,int,int)", "sun(int,int,int)", "way(int,int,int)", "step(int)",
        "night(int)", "coach(int,int)", "licence(int,int,int)", "look(int,int)", "stand(int,int)", "go(int,int)",
        "about(int,int)", "turn(int,int)", "feed(int,int)", "law(int,int)", "inForce(int,int,int)",
        "says(int,int,int,int,int)", "call(int,int,int)", "why(int,int,int,int)", "minutes(int)", "trip(int,int)",
        "due(int,int,int)", "refusal(int,int)", "complain(int,int)", "judged(int,int)", "lost(int,int,int,int)",
        "found(int,int)", "joined(int)", "fits(int)", "tried(int,int,int)", "count(int)");
    private static final Set<String> CONSTANTS = Set.of("NONE", "FULL", "STATE", "THERE", "NO_WAY", "NO_VALUE");
    private static final Check CHECK = new Check();

    private LanguageTest() {
    }

    public static void main(String[] args) throws IOException {
        face();
        members(HackneyStands.class);
        for (Class<?> inside : HackneyStands.class.getDeclaredClasses()) {
            members(inside);
            is("rule 2: static " + inside, Modifier.isStatic(inside.getModifiers()));
            is("rule 1: not public " + inside, !Modifier.isPublic(inside.getModifiers()));
        }
        is("rule 11: some twelve classes", HackneyStands.class.getDeclaredClasses().length <= 11);
        String source = System.getProperty("source", "src/main/java/HackneyStands.java");
        String text = withoutComments(Files.readString(Path.of(source)));
        words(text);
        library(text);
        lengths(text);
        CHECK.end();
    }

    private static void is(String rule, boolean kept) {
        CHECK.due(rule, kept ? 1 : 0, 1);
    }

    private static String told(Method method) {
        StringBuilder all = new StringBuilder(method.getName()).append('(');
        for (Class<?> type : method.getParameterTypes()) {
            all.append(all.charAt(all.length() - 1) == '(' ? "" : ",").append(type.getName());
        }
        return all.append(')').toString();
    }

    private static void face() {
        CHECK.promise("the face");
        Set<String> calls = new TreeSet<>();
        for (Method method : HackneyStands.class.getDeclaredMethods()) {
            if (!Modifier.isPrivate(method.getModifiers())) {
                calls.add(told(method));
                is(told(method) + " is public, answers int", Modifier.isPublic(method.getModifiers())
                    && !Modifier.isStatic(method.getModifiers()) && method.getReturnType() == int.class);
            }
        }
        is("the calls " + calls, calls.equals(CALLS));
        Set<String> constants = new TreeSet<>();
        for (Field field : HackneyStands.class.getDeclaredFields()) {
            if (!Modifier.isPrivate(field.getModifiers())) {
                constants.add(field.getName());
            }
        }
        is("the constants " + constants, constants.equals(CONSTANTS));
        Constructor<?>[] made = HackneyStands.class.getDeclaredConstructors();
        is("one public constructor", made.length == 1 && made[0].getParameterCount() == 0
            && Modifier.isPublic(made[0].getModifiers()));
        is("a public final class", Modifier.isPublic(HackneyStands.class.getModifiers())
            && Modifier.isFinal(HackneyStands.class.getModifiers()));
    }

    private static void members(Class<?> part) {
        CHECK.promise("members of " + part.getSimpleName());
        int fields = 0;
        for (Field field : part.getDeclaredFields()) {
            boolean isStatic = Modifier.isStatic(field.getModifiers());
            fields += isStatic ? 0 : 1;
            is("rule 5: final " + field, !isStatic || Modifier.isFinal(field.getModifiers()));
        }
        is("rule 11: some twenty fields", fields <= 20);
        Set<String> names = new TreeSet<>();
        CALLS.forEach(call -> names.add(call.substring(0, call.indexOf('('))));
        for (Method method : part.getDeclaredMethods()) {
            boolean isPrivate = Modifier.isPrivate(method.getModifiers());
            is("rule 1: the name of " + method, !isPrivate || !names.contains(method.getName()));
            is("rule 11: seven parameters of " + method, method.getParameterCount() <= 7);
        }
    }

    private static String withoutComments(String text) {
        return text.replaceAll("(?s)/\\*.*?\\*/", "").replaceAll("//[^\n]*", "");
    }

    private static int found(String text, String pattern) {
        int all = 0;
        for (Matcher m = Pattern.compile(pattern).matcher(text); m.find();) {
            all++;
        }
        return all;
    }

    private static void words(String text) {
        CHECK.promise("words");
        String[] ruledOut = {
            "\\b(throw|throws|try|catch|finally|synchronized|assert|yield|var|native|transient|volatile|protected)\\b",
            "->", "::", "@", "\\bpackage\\b", "\\bstatic\\s*\\{", "\\.class\\b", "\\bObject\\b", "\\bextends\\b",
            "\\b(equals|hashCode|toString|getClass)\\b", "Exact\\b", "\\b(Character|Random|Thread|Runtime|Date)\\b",
            "\"\\s*\\+", "\\+\\s*\"", "\\b(float|double)\\b", "while \\(true\\)", "for \\(;",
        };
        for (String pattern : ruledOut) {
            CHECK.due(pattern, found(text, pattern), 0);
        }
        is("signs 1 to 127", text.chars().allMatch(c -> c >= 1 && c <= 127));
    }

    private static void library(String text) {
        CHECK.promise("library");
        CHECK.due("imports", found(text, "\\bimport\\b"), found(text, "import java\\.util\\.(Arrays|ArrayList|List);"));
        CHECK.due("System", found(text, "\\bSystem\\b"), found(text, "System\\.arraycopy\\("));
        CHECK.due("Math", found(text, "\\bMath\\b"), found(text, "Math\\.(max|min|abs|floorDiv|floorMod)\\("));
        int arrays = found(text, "Arrays\\.(copyOf|copyOfRange|fill)\\(");
        CHECK.due("Arrays", found(text, "\\bArrays\\b"), arrays + found(text, "import java\\.util\\.Arrays;"));
    }

    private static void lengths(String text) {
        CHECK.promise("lengths");
        int begun = 0;
        String name = "";
        String[] lines = text.split("\n");
        for (int i = 0; i < lines.length; i++) {
            if (lines[i].matches("( {4}| {8})(public|private) [^=;]*\\{")) {
                begun = i;
                name = lines[i].trim();
            }
            if (lines[i].matches("( {4}| {8})\\}") && !name.contains(" class ")) {
                is("rule 11: sixty lines of " + name, i - begun < 60);
            }
        }
    }
}
