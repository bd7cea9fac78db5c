import java.io.IOException;
import java.lang.reflect.Constructor;
import java.lang.reflect.Field;
import java.lang.reflect.Method;
import java.lang.reflect.Modifier;
import java.nio.file.Files;
import java.nio.file.Path;
import java.util.Arrays;
import java.util.HashSet;
import java.util.Set;
import java.util.TreeSet;
import java.util.regex.Matcher;
import java.util.regex.Pattern;

/** What LANGUAGE.md asks, as far as it can be seen in the source's words and in the class's members. */
final class RulesTest {
    private static final Due DUE = new Due("RulesTest");
    private static final String[] FACE = {
        "act(int,int,int)int", "ahead(int,int)int", "ask(int,int)int", "begin(int)int", "chain(int)int",
        "copy(int,int,int,int,int)int", "drawn(int)int", "element(int,int)long", "evenings(int)int", "fault()int",
        "friend(int,int)int", "friends(int,int,int)int", "go(int,boolean)int", "holds(int)int", "image()int",
        "judge(int,int)int", "keep()int", "keeps(int)int", "lost(int)int", "ones(int,int,int)int", "pairs()int",
        "person(int,int,int,boolean)int", "personOf(int,int)int", "price(int)int", "restore()int", "ring(int,int)int",
        "room(int)int", "row(int,int,int)int", "says(int,int)int", "school(int)int", "seed(int)int",
        "set(int,int,long)int", "show(int,int)int", "status(int)int", "take(int)int", "tonight(int)int",
        "trace(int)int", "will(int)int", "worst(int,int)int",
    };

    public static void main(String[] args) throws IOException {
        face();
        classesInside();
        words(Files.readString(Path.of("src/main/java/ThirdEvening.java")));
        DUE.end();
    }

    private static void has(String what, boolean stands) {
        DUE.is(what, stands ? 1 : 0, 1);
    }

    private static void face() {
        Class<?> c = ThirdEvening.class;
        has("rule 1, public and final", c.getModifiers() == (Modifier.PUBLIC | Modifier.FINAL));
        Set<String> found = new TreeSet<>();
        for (Method m : c.getDeclaredMethods()) {
            if (Modifier.isPublic(m.getModifiers())) {
                String types = Arrays.toString(m.getParameterTypes()).replaceAll("[\\[\\] ]", "");
                found.add(m.getName() + "(" + types + ")" + m.getReturnType());
            } else {
                has("rule 1, private: " + m, Modifier.isPrivate(m.getModifiers()));
            }
        }
        DUE.is("rule 1, methods", FACE.length, 39);
        has("rule 1, the face " + found, found.equals(new TreeSet<>(Arrays.asList(FACE))));
        Constructor<?>[] made = c.getDeclaredConstructors();
        has("rule 1, one constructor", made.length == 1 && Modifier.isPublic(made[0].getModifiers()));
        for (Field f : c.getDeclaredFields()) {
            has("rule 1, field " + f, f.getName().equals("NONE") || Modifier.isPrivate(f.getModifiers()));
        }
    }

    private static void classesInside() {
        Set<String> publicNames = new HashSet<>();
        for (String one : FACE) {
            publicNames.add(one.substring(0, one.indexOf('(')));
        }
        Class<?>[] inside = ThirdEvening.class.getDeclaredClasses();
        has("rule 11, classes", inside.length < 12);
        for (Class<?> c : inside) {
            has("rule 2, static: " + c, Modifier.isStatic(c.getModifiers()) && !Modifier.isPublic(c.getModifiers()));
            int fields = 0;
            for (Field f : c.getDeclaredFields()) {
                boolean constant = Modifier.isStatic(f.getModifiers());
                fields += constant ? 0 : 1;
                has("rule 5, final: " + f, !constant || Modifier.isFinal(f.getModifiers()));
            }
            has("rule 11, fields of " + c, fields <= 20);
            for (Method m : c.getDeclaredMethods()) {
                has("rule 1, name of " + m, !publicNames.contains(m.getName()));
                has("rule 11, parameters of " + m, m.getParameterCount() <= 7);
            }
        }
        for (Method m : ThirdEvening.class.getDeclaredMethods()) {
            has("rule 1, name of " + m, Modifier.isPublic(m.getModifiers()) || !publicNames.contains(m.getName()));
        }
    }

    private static void words(String source) {
        String plain = source.replaceAll("(?s)/\\*.*?\\*/", "").replaceAll("//[^\n]*", "")
            .replaceAll("\"[^\"\n]*\"", "TEXT").replaceAll("'[^'\n]*'", "SIGN");
        String[] never = {"throw", "throws", "try", "catch", "finally", "synchronized", "assert", "package", "var", "Object",
            "record", "enum", "Exception", "hashCode", "equals", "native", "volatile", "transient", "strictfp", "instanceof"};
        for (String word : never) {
            has("rule 6, no " + word, !Pattern.compile("\\b" + word + "\\b").matcher(plain).find());
        }
        has("rule 2, no lambda", !plain.contains("->") && !plain.contains("::"));
        has("rule 5, no static block", !Pattern.compile("static\\s*\\{").matcher(plain).find());
        has("rule 4, no @", !plain.contains("@"));
        Matcher imports = Pattern.compile("import\\s+([^;]+);").matcher(plain);
        while (imports.find()) {
            has("rule 4, import " + imports.group(1), imports.group(1).equals("java.util.Arrays"));
        }
        Matcher library = Pattern.compile("\\b(System|Arrays|Math|Integer|Long|String)\\.(\\w+)").matcher(plain);
        Set<String> may = Set.of("System.arraycopy", "Arrays.fill", "Math.abs", "Math.min", "Math.max", "Integer.bitCount");
        while (library.find()) {
            has("rule 4, " + library.group(), may.contains(library.group()));
        }
        has("rule 3, no joining of texts by +", !plain.contains("TEXT +") && !plain.contains("+ TEXT"));
        methodsAreShort(plain);
    }

    private static void methodsAreShort(String plain) {
        String[] lines = plain.split("\n", -1);
        int since = -1;
        for (int i = 0; i < lines.length; i++) {
            if (lines[i].matches(" {4}( {4})?[^ ].*\\) \\{") && !lines[i].contains(" class ")) {
                since = i;
            }
            if (since >= 0 && lines[i].matches(" {4}( {4})?\\}")) {
                has("rule 11, " + lines[since].trim() + " has " + (i - since), i - since <= 60);
                since = -1;
            }
        }
    }
}
