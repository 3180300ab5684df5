import java.lang.reflect.Constructor;
import java.lang.reflect.Field;
import java.lang.reflect.Member;
import java.lang.reflect.Method;
import java.lang.reflect.Modifier;
import java.nio.file.Files;
import java.nio.file.Path;
import java.util.Set;
import java.util.TreeSet;
import java.util.regex.Matcher;
import java.util.regex.Pattern;

/** The public face is the document's and no more; and the source keeps to what can be seen of LANGUAGE.md. */
public final class FaceTest {
    private static final Set<String> FACE = Set.of(
        "BAD", "NO", "FULL", "new()",
        "values(int)", "bytes(int)", "part(int,int,int)", "sort(int)", "length(int)",
        "set(int,int,int,int)", "get(int,int)", "number(int,int)", "setByte(int,int,int)",
        "dictionary()", "define(int,int,int,int,int)", "find(int,int,int)", "found(int,int,int)",
        "undefine(int,int,int)", "count(int)", "next(int,int,int)", "cursorKind()", "cursorNumber()",
        "save()", "restore(int)", "noted(int,int)");

    private static final String[] BARRED = {
        "throw", "throws", "try", "catch", "synchronized", "assert", "->", "::", "Exact",
        "protected", "static\\s*\\{"
    };

    private static final Check CHECK = new Check("FaceTest");

    public static void main(String[] args) throws Exception {
        constants();
        face();
        noStaticState();
        source();
        CHECK.end();
    }

    private static void constants() {
        CHECK.due("BAD", PageStore.BAD, -1);
        CHECK.due("NO", PageStore.NO, -2);
        CHECK.due("FULL", PageStore.FULL, -3);
    }

    private static void face() {
        Class<?> c = PageStore.class;
        CHECK.holds("the class is public and final",
            Modifier.isPublic(c.getModifiers()) && Modifier.isFinal(c.getModifiers()));
        Set<String> seen = new TreeSet<>();
        for (Field f : c.getDeclaredFields()) {
            note(seen, f, f.getName());
        }
        for (Constructor<?> k : c.getDeclaredConstructors()) {
            note(seen, k, signature("new", k.getParameterTypes()));
        }
        Set<String> publicNames = new TreeSet<>();
        for (Method m : c.getDeclaredMethods()) {
            note(seen, m, signature(m.getName(), m.getParameterTypes()));
            if (Modifier.isPublic(m.getModifiers())) {
                publicNames.add(m.getName());
                CHECK.holds(m + " answers an int", m.getReturnType() == int.class);
            }
        }
        for (Method m : c.getDeclaredMethods()) {
            CHECK.holds("no private method has a public one's name: " + m,
                !Modifier.isPrivate(m.getModifiers()) || !publicNames.contains(m.getName()));
        }
        CHECK.holds("the face is the document's, but is " + seen, seen.equals(FACE));
    }

    private static void note(Set<String> seen, Member member, String name) {
        if (!Modifier.isPrivate(member.getModifiers())) {
            seen.add(name);
        }
    }

    private static String signature(String name, Class<?>[] types) {
        StringBuilder out = new StringBuilder(name).append('(');
        for (int i = 0; i < types.length; i++) {
            out.append(i == 0 ? "" : ",").append(types[i].getName());
        }
        return out.append(')').toString();
    }

    private static void noStaticState() {
        for (Class<?> c : PageStore.class.getDeclaredClasses()) {
            CHECK.holds(c + " is static", Modifier.isStatic(c.getModifiers()));
            staticsAreFinal(c);
        }
        staticsAreFinal(PageStore.class);
    }

    private static void staticsAreFinal(Class<?> c) {
        for (Field f : c.getDeclaredFields()) {
            CHECK.holds(f + " is final if static",
                !Modifier.isStatic(f.getModifiers()) || Modifier.isFinal(f.getModifiers()));
        }
    }

    private static void source() throws Exception {
        String text = Files.readString(Path.of("src/main/java/PageStore.java"));
        String code = text.replaceAll("(?s)/\\*.*?\\*/", "").replaceAll("//[^\n]*", "");
        for (String word : BARRED) {
            String edge = Character.isLetter(word.charAt(0)) && !word.contains("{") ? "\\b" : "";
            boolean there = Pattern.compile(edge + word + edge).matcher(code).find();
            CHECK.holds("the source has no " + word, !there);
        }
        Matcher imports = Pattern.compile("import\\s+([\\w.*]+);").matcher(code);
        while (imports.find()) {
            CHECK.holds("import " + imports.group(1), imports.group(1).equals("java.util.Arrays"));
        }
        CHECK.holds("the source has no package line", !Pattern.compile("\\bpackage\\b").matcher(code).find());
    }
}
