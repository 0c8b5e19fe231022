import java.io.IOException;
import java.lang.reflect.Field;
import java.lang.reflect.Member;
import java.lang.reflect.Method;
import java.lang.reflect.Modifier;
import java.nio.file.Files;
import java.nio.file.Path;
import java.util.List;
import java.util.Set;
import java.util.TreeSet;
import java.util.regex.Matcher;
import java.util.regex.Pattern;

/** What can be seen of LANGUAGE.md, and the document's face, in the class and its text (its path is the argument). */
public final class LanguageTest {
    private static final Set<String> FACE = new TreeSet<>(List.of("line(int,int)", "pull(int)", "plug(int)",
            "at(int,int)", "wide(int,int)", "fixture(int,int)", "group(int,int)", "member(int,int,int)",
            "memberAt(int,int)", "asks(int,int)", "trace(int)", "about(int,int)", "patch(int,int,int)", "unpatch(int)",
            "firm(int,boolean)", "point(int,int,int)", "curve(int,int)", "bend(int,int,int)",
            "entry(int,int,int,int,int)", "list(int,int,int)", "load(int,int)", "go(int)", "stop(int)", "release(int)",
            "master(int,int)", "merge(int,int,boolean)", "value(int,int,int)", "playback(int,int)", "limit(int,int)",
            "heat(int)", "over(int)", "blackout(boolean)", "tick(int)", "found(int)", "digest()", "replay()",
            "back(int)", "told(int)"));
    private static final String NOT_THERE = "\\b(throw|throws|try|catch|synchronized|assert|package|protected|volatile"
            + "|transient|native|Object|Float|Double|Random|System|Thread|double|[a-z]+Exact)\\b|->|::|static *\\{";
    private static final Check CHECK = new Check();

    public static void main(String[] args) throws IOException {
        face();
        insideClasses();
        text(Files.readString(Path.of(args[0])));
        CHECK.end();
    }

    private static void hold(String what, boolean holds) {
        CHECK.due(what, holds ? 1 : 0, 1);
    }

    private static String signature(Method method) {
        StringBuilder text = new StringBuilder(method.getName()).append('(');
        for (Class<?> type : method.getParameterTypes()) {
            text.append(text.charAt(text.length() - 1) == '(' ? "" : ",").append(type.getName());
        }
        return text.append(')').toString();
    }

    private static boolean isPrivate(Member member) {
        return Modifier.isPrivate(member.getModifiers());
    }

    private static void face() {
        Set<String> seen = new TreeSet<>();
        for (Method method : CueBoard.class.getDeclaredMethods()) {
            if (!isPrivate(method)) {
                hold(method + " is public, not static, int",
                        method.getModifiers() == Modifier.PUBLIC && method.getReturnType() == int.class);
                seen.add(signature(method));
            }
        }
        hold("the face: " + seen, seen.equals(FACE));
        hold("one constructor, public, of nothing", CueBoard.class.getDeclaredConstructors().length == 1
                && CueBoard.class.getConstructors().length == 1
                && CueBoard.class.getConstructors()[0].getParameterCount() == 0);
        hold("public and final", CueBoard.class.getModifiers() == (Modifier.PUBLIC | Modifier.FINAL));
        Set<String> constants = new TreeSet<>();
        for (Field field : CueBoard.class.getDeclaredFields()) {
            if (!isPrivate(field)) {
                constants.add(field.getName());
            }
        }
        hold("the constants: " + constants, constants.equals(Set.of("NONE", "BAD", "NO", "FULL")));
    }

    private static void insideClasses() {
        Set<String> names = new TreeSet<>();
        for (String signature : FACE) {
            names.add(signature.substring(0, signature.indexOf('(')));
        }
        Class<?>[] classes = CueBoard.class.getDeclaredClasses();
        hold("twelve classes at most", classes.length < 12);
        for (Class<?> inside : classes) {
            hold(inside + " is private, static", Modifier.isPrivate(inside.getModifiers())
                    && Modifier.isStatic(inside.getModifiers()));
            hold(inside + " has no classes inside", inside.getDeclaredClasses().length == 0);
            for (Method method : inside.getDeclaredMethods()) {
                hold(method + " has a name of its own", !names.contains(method.getName()));
            }
        }
        staticFields(CueBoard.class);
        for (Class<?> inside : classes) {
            staticFields(inside);
        }
    }

    private static void staticFields(Class<?> type) {
        int own = 0;
        for (Field field : type.getDeclaredFields()) {
            if (Modifier.isStatic(field.getModifiers())) {
                hold(field + " is final", Modifier.isFinal(field.getModifiers()));
            } else {
                own++;
            }
        }
        hold(type + " has twenty fields at most", own <= 20);
        for (Method method : type.getDeclaredMethods()) {
            hold(method + " takes seven at most", method.getParameterCount() <= 7);
        }
    }

    private static void text(String source) {
        String code = source.replaceAll("(?s)/\\*.*?\\*/", "").replaceAll("//[^\n]*", "");
        Matcher matcher = Pattern.compile(NOT_THERE).matcher(code);
        while (matcher.find()) {
            hold("not in this Java: " + matcher.group(), false);
        }
        Matcher imports = Pattern.compile("import [^;]*;").matcher(code);
        while (imports.find()) {
            hold("only this import: " + imports.group(), imports.group().equals("import java.util.Arrays;"));
        }
        for (int i = 0; i < source.length(); i++) {
            if (source.charAt(i) > 126) {
                hold("plain characters alone", false);
            }
        }
        hold("some code", code.length() > 1000);
    }
}
