import java.io.IOException;
import java.lang.reflect.Constructor;
import java.lang.reflect.Field;
import java.lang.reflect.Method;
import java.lang.reflect.Modifier;
import java.nio.file.Files;
import java.nio.file.Path;
import java.util.Arrays;
import java.util.HashSet;
import java.util.Set;
import java.util.TreeSet;
import java.util.regex.Matcher;
import java.util.regex.Pattern;

/** What LANGUAGE.md asks, as far as it can be seen in the source's words and in the class's members. */
final class RulesTest {
    private static final Due DUE = new Due("RulesTest");
    private static final String[] FACE = {
        "act(int,int,int)int", "ahead(int,int)int", "ask(int,int)int", "begin(int)int", "chain(int)int",
        "copy(int,int,int,int,int)int", "drawn(int)int", "element(int,int)long", "evenings(int)int", "fault()int",
        "friend(int,int)int", "friends(int,int,int)int", "go(int,boolean)int", "holds(int)int", "image()int",
        "judge(int,int)int", "keep()int", "keeps(int)int", "lost(int)int", "ones(int,int,int)int", "pairs()int",
        "person(int,int,int,boolean)int", "personOf(int,int)int", "price(int)int", "restore()int", "ring(int,int)int",
        "room(int)int", "row(int,int,int)int", "says(int,int)int", "school(int)int", "seed(int)int",
        "set(int,int,long)int", "show(int,int)int", "status(int)int", "take(int)int", "tonight(int)int",
        "trace(int)int", "will(int)int", "worst(int,int)int",
    };

    public static void main(String[] args) throws IOException {
        face();
        classesInside();
        words(Files.readString(Path.of("src/main/java/ThirdEvening.java")));
        DUE.end();
    }

    private static void has(String what, boolean stands) {
        DUE.is(what, stands ? 1 : 0, 1);
    }

    private static void face() {
        Class<?> c = ThirdEvening.class;
        has("rule 1, public and final", c.getModifiers() == (Modifier.PUBLIC | Modifier.FINAL));
        Set<String> found = new TreeSet<>();
        for (Method m : c.getDeclaredMethods()) {
            if (Modifier.isPublic(m.getModifiers())) {
                String types = Arrays.toString(m.getParameterTypes()).replaceAll("[\\[\\] ]", "");
                found.add(m.getName() + "(" + types + ")" + m.getReturnType());
            } else {
                has("rule 1, private: " + m, Modifier.isPrivate(m.getModifiers()));
            }
        }
        DUE.is("rule 1, methods", FACE.length, 39);
        has("rule 1, the face " + found, found.equals(new TreeSet<>(Arrays.asList(FACE))));
        Constructor<?>[] made = c.getDeclaredConstructors();
        has("rule 1, one constructor", made.length == 1 && Modifier.isPublic(made[0].getModifiers()));
        for (Field f : c.getDeclaredFields()) {
            has("rule 1, field " + f, f.getName().equals("NONE") || Modifier.isPrivate(f.getModifiers()));
        }
    }

    private static void classesInside() {
        Set<String> publicNames = new HashSet<>();
        for (String one : FACE) {
            publicNames.add(one.substring(0, one.indexOf('(')));
        }
        Class<?>[] inside = ThirdEvening.class.getDeclaredClasses();
        has("rule 11, classes", inside.length <= 14);
        for (Class<?> c : inside) {
            has("rule 2, static: " + c, Modifier.isStatic(c.getModifiers()) && !Modifier.isPublic(c.getModifiers()));
            membersOf(c, publicNames);
        }
        membersOf(ThirdEvening.class, publicNames);
    }

    private static void membersOf(Class<?> c, Set<String> publicNames) {
        int fields = 0;
        for (Field f : c.getDeclaredFields()) {
            boolean constant = Modifier.isStatic(f.getModifiers());
            fields += constant ? 0 : 1;
            has("rule 5, final: " + f, !constant || Modifier.isFinal(f.getModifiers()));
        }
        has("rule 11, fields of " + c, fields <= 24);
        for (Method m : c.getDeclaredMethods()) {
            has("rule 1, name of " + m, !Modifier.isPrivate(m.getModifiers()) || !publicNames.contains(m.getName()));
            has("rule 11, parameters of " + m, m.getParameterCount() <= 7);
        }
    }

    private static void words(String source) {
        String plain = source.replaceAll("(?s)/\\*.*?\\*/", "").replaceAll("//[^\n]*", "")
            .replaceAll("\"[^\"\n]*\"", "TEXT").replaceAll("'[^'\n]*'", "SIGN");
        String[] never = {"throw", "throws", "try", "catch", "finally", "synchronized", "assert", "package", "Object",
            "Thread", "Exception", "hashCode", "native", "volatile", "transient", "strictfp"};
        for (String word : never) {
            has("rules 3, 6 and 13, no " + word, !Pattern.compile("\\b" + word + "\\b").matcher(plain).find());
        }
        has("rule 2, no lambda, no method reference", !plain.replaceAll("(case [^;{}]*|default) ->", "").contains("->")
            && !plain.contains("::"));
        has("rule 5, no static block", !Pattern.compile("static\\s*\\{").matcher(plain).find());
        has("rule 3, no joining of texts by +", !plain.contains("TEXT +") && !plain.contains("+ TEXT"));
        library(plain);
        methodsAreShort(plain);
    }

    private static void library(String plain) {
        Matcher imports = Pattern.compile("import\\s+([^;]+);").matcher(plain);
        while (imports.find()) {
            has("rule 4, import " + imports.group(1), imports.group(1).matches("java\\.util\\.(\\*|Arrays|ArrayList|List|Iterator)"));
        }
        Matcher calls = Pattern.compile("\\b(System|Arrays|Math|Integer|Long)\\.(\\w+)").matcher(plain);
        while (calls.find()) {
            String name = calls.group(2);
            boolean may = calls.group(1).equals("System") ? name.equals("arraycopy")
                : calls.group(1).equals("Arrays") ? Set.of("copyOf", "copyOfRange", "fill").contains(name)
                : !name.endsWith("Exact") && !name.equals("random");
            has("rule 4, " + calls.group(), may);
        }
    }

    private static void methodsAreShort(String plain) {
        String[] lines = plain.split("\n", -1);
        int since = -1;
        for (int i = 0; i < lines.length; i++) {
            if (lines[i].matches(" {4}( {4})?[^ ].*\\) \\{") && !lines[i].contains(" class ")) {
                since = i;
            }
            if (since >= 0 && lines[i].matches(" {4}( {4})?\\}")) {
                has("rule 11, " + lines[since].trim() + " has " + (i - since), i - since <= 70);
                since = -1;
            }
        }
    }
}
