import java.io.IOException;
import java.lang.reflect.Constructor;
import java.lang.reflect.Field;
import java.lang.reflect.Method;
import java.lang.reflect.Modifier;
import java.nio.file.Files;
import java.nio.file.Path;
import java.util.ArrayList;
import java.util.List;
import java.util.TreeSet;
import java.util.regex.Matcher;
import java.util.regex.Pattern;

/** The document's public face, and the rules of LANGUAGE.md that a look at the class and its text can tell. */
public final class FaceTest {
    private static final String SOURCE = "src/main/java/ShodForTheRoad.java";
    private static final String INTS = "letter/1 county/0 rider/2 steps/2 pulls/2 roads/2 shod/1 wants/2 stands/2 turn/3 "
        + "days/1 riderThen/3 comes/2 first/1 rests/1 meet/3 arrived/0 shoe/3 wish/2 road/2 cut/2 inn/2 busiest/0 near/1 "
        + "apart/1 tired/0 truly/1 total/1 bare/1 two/3 whatWanted/2 row/1 judge/0 clear/0 lots/3 image/0 on/0 count/1";
    private static final String LONGS = "mud/5 mean/1";
    private static final String[] FORBIDDEN = {"\\bthrow\\b", "\\bthrows\\b", "\\btry\\b", "\\bcatch\\b",
        "\\bsynchronized\\b", "\\bassert\\b", "\\bimport\\b", "\\bpackage\\b", "->", "::", "\\bExact\\b", "\\w+Exact\\b",
        "static\\s*\\{", "\\bThread\\b", "\\bRandom\\b", "\\bcurrentTimeMillis\\b", "\\bnanoTime\\b", "\\bvar\\b",
        "\\bvolatile\\b", "\\btransient\\b", "\\bhashCode\\b", "\\btoString\\b", "\\bprintln\\b"};

    private static final Check C = new Check();

    public static void main(String[] args) throws IOException {
        face();
        classesInside();
        String text = Files.readString(Path.of(SOURCE));
        words(text);
        methodLengths(text);
        C.end();
    }

    private static void face() {
        Class<?> face = ShodForTheRoad.class;
        C.due("face modifiers", face.getModifiers(), Modifier.PUBLIC | Modifier.FINAL);
        Constructor<?>[] constructors = face.getDeclaredConstructors();
        C.due("one constructor", constructors.length, 1);
        C.due("it is public", constructors[0].getModifiers(), Modifier.PUBLIC);
        C.due("it takes nothing", constructors[0].getParameterCount(), 0);
        TreeSet<String> due = new TreeSet<>();
        addAll(due, "int ", INTS);
        addAll(due, "long ", LONGS);
        TreeSet<String> seen = new TreeSet<>();
        for (Method m : face.getDeclaredMethods()) {
            if (!Modifier.isPrivate(m.getModifiers())) {
                C.due(m + " modifiers", m.getModifiers(), Modifier.PUBLIC);
                seen.add(m.getReturnType() + " " + m.getName() + "/" + m.getParameterCount());
            }
            for (Class<?> taken : m.getParameterTypes()) {
                C.holds(m + " takes ints", taken == int.class || Modifier.isPrivate(m.getModifiers()));
            }
        }
        C.holds("methods " + seen, seen.equals(due));
        for (Field f : face.getDeclaredFields()) {
            C.holds(f + " is private", Modifier.isPrivate(f.getModifiers()));
        }
    }

    private static void addAll(TreeSet<String> due, String type, String names) {
        for (String name : names.split(" ")) {
            due.add(type + name);
        }
    }

    private static void classesInside() {
        TreeSet<String> publicNames = new TreeSet<>();
        for (Method m : ShodForTheRoad.class.getDeclaredMethods()) {
            if (Modifier.isPublic(m.getModifiers())) {
                publicNames.add(m.getName());
            }
        }
        List<Class<?>> all = new ArrayList<>(List.of(ShodForTheRoad.class.getDeclaredClasses()));
        C.holds("at most twelve classes", all.size() <= 11);
        all.add(ShodForTheRoad.class);
        for (Class<?> c : all) {
            C.holds(c + " is static", c == ShodForTheRoad.class || Modifier.isStatic(c.getModifiers()));
            int fields = 0;
            for (Field f : c.getDeclaredFields()) {
                C.holds(f + " if static is final",
                    !Modifier.isStatic(f.getModifiers()) || Modifier.isFinal(f.getModifiers()));
                fields += Modifier.isStatic(f.getModifiers()) ? 0 : 1;
            }
            C.holds(c + " has few fields", fields <= 20);
            for (Method m : c.getDeclaredMethods()) {
                C.holds(m + " takes at most seven", m.getParameterCount() <= 7);
                boolean ofFace = c == ShodForTheRoad.class && Modifier.isPublic(m.getModifiers());
                C.holds(m + " has a name of its own", ofFace || !publicNames.contains(m.getName()));
            }
        }
    }

    private static void words(String text) {
        String code = text.replaceAll("/\\*(?s:.*?)\\*/", " ").replaceAll("//.*", " ");
        for (String word : FORBIDDEN) {
            Matcher m = Pattern.compile(word).matcher(code);
            C.holds("no " + word + " in the text", !m.find());
        }
        for (int i = 0; i < text.length(); i++) {
            C.holds("sign at " + i, text.charAt(i) < 128);
        }
    }

    private static void methodLengths(String text) {
        String[] lines = text.split("\n");
        int start = -1;
        String indent = "";
        for (int i = 0; i < lines.length; i++) {
            Matcher m = Pattern.compile("^(    |        )(?!for|if|while|switch|return)\\S.*\\) \\{$").matcher(lines[i]);
            if (start < 0 && m.find()) {
                start = i;
                indent = m.group(1);
            } else if (start >= 0 && lines[i].equals(indent + "}")) {
                C.holds("method at line " + (start + 1) + " is short", i - start < 60);
                start = -1;
            }
        }
    }
}
