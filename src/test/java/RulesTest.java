import java.lang.reflect.Constructor;
import java.lang.reflect.Field;
import java.lang.reflect.Method;
import java.lang.reflect.Modifier;
import java.io.IOException;
import java.nio.file.Files;
import java.nio.file.Path;
import java.util.Arrays;
import java.util.HashSet;
import java.util.List;
import java.util.Set;
import java.util.TreeSet;
import java.util.regex.Matcher;
import java.util.regex.Pattern;

/** The face of the class, and those rules of LANGUAGE.md that can be looked up in the file's words. */
public final class RulesTest {
    public static void main(String[] args) throws IOException {
        face();
        noPublicNameTwice();
        words(Files.readString(Path.of("src/main/java/SharedSleeves.java")));
        Checks.finish("RulesTest");
    }

    private static void face() {
        Set<String> want = new TreeSet<>(List.of("feed(int,long)", "town()", "fault()", "told(int)", "coat(int,int)",
            "errand(int,int)", "where(int,int)", "likes(int,int)", "net(int,int)", "sell(int,int,int)", "cut(int)",
            "frost(int)", "worn(int,int)", "chill(int,int)", "fair(int,int)", "wish(int)", "swap()", "most()",
            "gain(int)", "best()", "see(int,int,int)", "wore(int)", "theft()", "write(int,int,int)", "tear()",
            "judge()", "winter(int)", "seed(int)", "keep(int)", "goBack(int)"));
        Set<String> got = new TreeSet<>();
        for (Method m : SharedSleeves.class.getDeclaredMethods()) {
            if (!Modifier.isPrivate(m.getModifiers()) && !m.isSynthetic()) {
                StringBuilder types = new StringBuilder();
                for (Class<?> type : m.getParameterTypes()) {
                    types.append(types.length() == 0 ? "" : ",").append(type.getName());
                }
                got.add(m.getName() + "(" + types + ")");
                Checks.due("rule 1: public, of int: " + m, 1, Modifier.isPublic(m.getModifiers()) && m.getReturnType() == int.class ? 1 : 0);
            }
        }
        Checks.due("rule 1: the face is " + got, 1, got.equals(want) ? 1 : 0);
        Set<String> constants = new TreeSet<>();
        for (Field f : SharedSleeves.class.getDeclaredFields()) {
            if (!Modifier.isPrivate(f.getModifiers())) {
                constants.add(f.getName());
            }
            Checks.due("rule 5: static is final: " + f, 1, !Modifier.isStatic(f.getModifiers()) || Modifier.isFinal(f.getModifiers()) ? 1 : 0);
        }
        Checks.due("rule 1: constants " + constants, 1, constants.equals(new TreeSet<>(List.of("NONE", "UNKNOWN", "OUTSIDE", "NOT", "FULL"))) ? 1 : 0);
        Constructor<?>[] constructors = SharedSleeves.class.getDeclaredConstructors();
        Checks.due("rule 1: constructors", 1, constructors.length);
        for (Class<?> inside : SharedSleeves.class.getDeclaredClasses()) {
            Checks.due("rule 1 and 2: " + inside, 1, Modifier.isStatic(inside.getModifiers()) && !Modifier.isPublic(inside.getModifiers())
                && !Modifier.isProtected(inside.getModifiers()) ? 1 : 0);
        }
        Checks.due("rule 11: classes", 1, SharedSleeves.class.getDeclaredClasses().length + 1 <= 12 ? 1 : 0);
    }

    private static void noPublicNameTwice() {
        Set<String> names = new HashSet<>();
        for (Method m : SharedSleeves.class.getMethods()) {
            if (m.getDeclaringClass() == SharedSleeves.class) {
                names.add(m.getName());
            }
        }
        for (Method m : SharedSleeves.class.getDeclaredMethods()) {
            Checks.due("rule 1: " + m, 0, Modifier.isPrivate(m.getModifiers()) && names.contains(m.getName()) ? 1 : 0);
            Checks.due("rule 11: parameters of " + m, 1, m.getParameterCount() <= 7 ? 1 : 0);
        }
        for (Class<?> inside : SharedSleeves.class.getDeclaredClasses()) {
            int own = 0;
            for (Field f : inside.getDeclaredFields()) {
                own += Modifier.isStatic(f.getModifiers()) ? 0 : 1;
            }
            Checks.due("rule 11: fields of " + inside, 1, own <= 20 ? 1 : 0);
            for (Method m : inside.getDeclaredMethods()) {
                Checks.due("rule 1: " + m, 0, names.contains(m.getName()) ? 1 : 0);
                Checks.due("rule 11: parameters of " + m, 1, m.getParameterCount() <= 7 ? 1 : 0);
            }
        }
    }

    private static void words(String source) {
        String code = source.replaceAll("(?s)/\\*.*?\\*/", " ").replaceAll("//[^\n]*", " ").replaceAll("\"[^\"\n]*\"", "\"\"");
        for (String word : List.of("throw", "throws", "try", "catch", "finally", "synchronized", "assert", "instanceof",
            "package", "import", "protected", "volatile", "transient", "native", "hashCode", "toString", "equals",
            "System", "Thread", "Object", "var", "yield")) {
            Checks.due("word " + word, 0, Pattern.compile("\\b" + word + "\\b").matcher(code).find() ? 1 : 0);
        }
        for (String sign : List.of("->", "::", "@", "\"\" +", "+ \"\"")) {
            Checks.due("sign " + sign, 0, code.contains(sign) ? 1 : 0);
        }
        Checks.due("signs up to 127", 1, source.chars().allMatch(c -> c < 128) ? 1 : 0);
        Matcher called = Pattern.compile("\\b(Math|Integer|Long)\\.(\\w+)").matcher(code);
        while (called.find()) {
            Checks.due("library " + called.group(), 1, Arrays.asList("min", "max", "bitCount").contains(called.group(2)) ? 1 : 0);
        }
        String[] lines = code.split("\n");
        newInConstructorsAlone(lines);
        methodsAreShort(lines);
    }

    /** All calls of one run live in one room: what is made is made once. */
    private static void newInConstructorsAlone(String[] lines) {
        String header = "";
        for (int i = 0; i < lines.length; i++) {
            boolean opens = lines[i].matches(" {4}( {4})?[\\w\\[\\] ]+\\(.*\\) \\{");
            header = opens && !lines[i].matches(" +(if|for|while|switch) .*") ? lines[i].strip() : header;
            if (Pattern.compile("\\bnew\\b").matcher(lines[i]).find()) {
                Checks.due("new in a constructor alone: " + lines[i].strip(), 1, header.matches("(public )?[A-Z]\\w*\\(.*") ? 1 : 0);
            }
        }
    }

    private static void methodsAreShort(String[] lines) {
        int open = 0;
        int start = 0;
        for (int i = 0; i < lines.length; i++) {
            int indent = lines[i].length() - lines[i].stripLeading().length();
            boolean closes = lines[i].strip().equals("}");
            if (lines[i].endsWith(") {") && (indent == 4 || indent == 8) && open == 0 && lines[i].contains("(")) {
                open = indent;
                start = i;
            } else if (closes && indent == open && open != 0) {
                Checks.due("rule 11: lines of the method at " + (start + 1), 1, i - start <= 60 ? 1 : 0);
                open = 0;
            }
        }
    }
}
