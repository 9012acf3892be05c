import java.io.IOException;
import java.lang.reflect.Constructor;
import java.lang.reflect.Field;
import java.lang.reflect.Method;
import java.lang.reflect.Modifier;
import java.nio.charset.StandardCharsets;
import java.nio.file.Files;
import java.nio.file.Path;
import java.util.ArrayList;
import java.util.Arrays;
import java.util.List;
import java.util.Set;
import java.util.TreeSet;

/** The document's face and no more of it, and those rules of LANGUAGE.md that can be read off. */
public final class FaceTest {
    private static final String NO = "java.lang.IndexOutOfBoundsException";
    private static final String BAD = "java.lang.IllegalArgumentException";
    private static final String NOT = "java.lang.IllegalStateException";
    private static final String HEAD = "public ";
    private static final String[] FACE = {
        "int InkRing.stroke(int,int,int,int) throws " + BAD + "," + NOT,
        "int InkRing.clear()",
        "int InkRing.sign() throws " + NOT,
        "int InkRing.buy(int,int) throws " + NO + "," + BAD + "," + NOT,
        "int InkRing.rise(int,int) throws " + NO + "," + BAD,
        "void InkRing.style(int,int,int,int) throws " + NO + "," + BAD,
        "int InkRing.learn(int,int) throws " + NO + "," + NOT,
        "int InkRing.pass(int) throws " + BAD + "," + NOT,
        "int InkRing.duel(int,int,int,int,int,int) throws " + NO + "," + BAD + "," + NOT,
        "int InkRing.hand(int,int) throws " + NO + "," + BAD + "," + NOT,
        "boolean InkRing.look(int,int,boolean) throws " + NO,
        "int InkRing.appeal(int,int) throws " + NO + "," + NOT,
        "int InkRing.prompt(int,int) throws " + NO,
        "float InkRing.mark(int,int) throws " + NO,
        "float InkRing.part(int,int,int) throws " + NO + "," + BAD,
        "float InkRing.marked(int,int,boolean) throws " + NO,
        "int InkRing.of(int,int) throws " + NO + "," + BAD,
        "int InkRing.paper(int,int) throws " + NO + "," + BAD,
        "int InkRing.won(int) throws " + NO,
    };
    private static final String[] RULED_OUT = {
        "import ", "package ", "catch", "finally", "synchronized", "assert", "->", "::", "Exact(", "System.", "java.",
    };

    private FaceTest() {
    }

    public static void main(String[] args) throws IOException {
        Check check = new Check("FaceTest");
        methods(check);
        fields(check);
        classesInside(check);
        words(check);
        check.end();
    }

    private static void methods(Check check) {
        Set<String> due = new TreeSet<>();
        for (String each : FACE) {
            due.add(HEAD + each);
        }
        Set<String> open = new TreeSet<>();
        Set<String> openNames = new TreeSet<>();
        for (Method each : InkRing.class.getDeclaredMethods()) {
            if (!Modifier.isPrivate(each.getModifiers())) {
                open.add(each.toString());
                openNames.add(each.getName());
            }
        }
        check.same("the open methods", due, open);
        for (Method each : InkRing.class.getDeclaredMethods()) {
            boolean shares = Modifier.isPrivate(each.getModifiers()) && openNames.contains(each.getName());
            check.same("private " + each.getName() + " has a public name", false, shares);
            check.same(each.getName() + " takes at most seven", true, each.getParameterCount() <= 7);
        }
        List<String> makers = new ArrayList<>();
        for (Constructor<?> each : InkRing.class.getDeclaredConstructors()) {
            makers.add(each.toString());
        }
        check.same("the constructors", List.of("public InkRing()"), makers);
        check.same("the class is", "public final", Modifier.toString(InkRing.class.getModifiers()));
    }

    private static void fields(Check check) {
        List<String> open = new ArrayList<>();
        int own = 0;
        for (Field each : InkRing.class.getDeclaredFields()) {
            int how = each.getModifiers();
            if (!Modifier.isPrivate(how)) {
                open.add(each.toString());
            }
            check.same(each + " is a constant if static", true, !Modifier.isStatic(how) || Modifier.isFinal(how));
            own += Modifier.isStatic(how) ? 0 : 1;
        }
        check.same("the open fields", List.of("public static final int InkRing.NONE"), open);
        check.same("at most twenty fields", true, own <= 20);
    }

    private static void classesInside(Check check) {
        Class<?>[] inside = InkRing.class.getDeclaredClasses();
        check.same("at most twelve classes", true, inside.length + 1 <= 12);
        for (Class<?> each : inside) {
            int how = each.getModifiers();
            check.same(each + " is static", true, Modifier.isStatic(how));
            check.same(each + " is not open", false, Modifier.isPublic(how) || Modifier.isProtected(how));
            Set<String> names = new TreeSet<>();
            Arrays.stream(each.getDeclaredMethods()).forEach(m -> names.add(m.getName()));
            names.retainAll(Set.of("equals", "hashCode", "toString"));
            check.same(each + " has methods ruled out", Set.of(), names);
        }
    }

    private static void words(Check check) throws IOException {
        String text = Files.readString(Path.of("src/main/java/InkRing.java"), StandardCharsets.ISO_8859_1);
        for (String word : RULED_OUT) {
            check.same("the program holds " + word, false, text.contains(word));
        }
        check.same("all signs are plain ones", true, text.chars().allMatch(c -> c < 127));
    }
}
