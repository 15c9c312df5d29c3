import java.lang.reflect.Constructor;
import java.lang.reflect.Field;
import java.lang.reflect.Member;
import java.lang.reflect.Method;
import java.lang.reflect.Modifier;
import java.nio.charset.StandardCharsets;
import java.nio.file.Files;
import java.nio.file.Path;
import java.util.ArrayList;
import java.util.Arrays;
import java.util.Collections;
import java.util.List;
import java.util.regex.Matcher;
import java.util.regex.Pattern;

/** The public face, and those rules of ../shared/LANGUAGE.md that can be seen from the class or its source. */
public final class LanguageTest {
    private static final String FACE = "about(int) back() blind(int,int,int,int) book(int,int) burst(int,int) by(int) "
        + "curve(int,int) day(int) end(int) far(int) fault(int) feed(int,int,int,int,int) fewest(int,int) "
        + "fit(int,int,int,int,int) fits(int,int,int,int,int) foretold(int,int) gain(int) gray(int) image() is(int) "
        + "learn(int,int,int) ledger(int) longest() lose(int) lost() mean(boolean) most(int) nearest() needs(int,int) "
        + "of(int,int) order(int) plan(int,int,int) played(int) pulls() reads(int,boolean) request(int) rests(int,int) "
        + "rim(int,boolean) said(int,int) seek(int) shake(int) spread(boolean) steady() stop(int,int) sweep(boolean) text() "
        + "till(int) track(int) undo() unlike(int,int) whose() window(int) wobble(int,int) worst() write() years(int,int)";
    private static final Check c = new Check();

    public static void main(String[] args) throws Exception {
        face();
        classes();
        source();
        c.end();
    }

    private static void face() {
        c.due("public and final", Modifier.isPublic(HeadServo.class.getModifiers())
            && Modifier.isFinal(HeadServo.class.getModifiers()), true);
        List<String> names = new ArrayList<>();
        for (Method m : HeadServo.class.getDeclaredMethods()) {
            if (Modifier.isPublic(m.getModifiers())) {
                List<String> types = new ArrayList<>();
                for (Class<?> p : m.getParameterTypes()) types.add(p.getName());
                names.add(m.getName() + "(" + String.join(",", types) + ")");
                boolean truth = Arrays.asList("wobble", "lose", "by", "seek").contains(m.getName());
                Class<?> due = truth ? boolean.class : m.getName().equals("mean") ? long.class : int.class;
                c.due("the type of " + m.getName(), m.getReturnType() == due, true);
            } else {
                c.due(m.getName() + " is private", Modifier.isPrivate(m.getModifiers()) || m.isSynthetic(), true);
            }
        }
        Collections.sort(names);
        c.due("the methods of the face: " + names, String.join(" ", names).equals(FACE), true);
        for (Field f : HeadServo.class.getDeclaredFields()) {
            boolean told = f.getName().equals("NONE");
            c.due("field " + f.getName(), told ? Modifier.isPublic(f.getModifiers()) : Modifier.isPrivate(f.getModifiers()), true);
            c.due("static " + f.getName(), !Modifier.isStatic(f.getModifiers()) || Modifier.isFinal(f.getModifiers()), true);
        }
        Constructor<?>[] all = HeadServo.class.getDeclaredConstructors();
        c.due("one constructor, public", all.length == 1 && Modifier.isPublic(all[0].getModifiers())
            && all[0].getParameterCount() == 0, true);
    }

    private static void classes() {
        List<String> face = new ArrayList<>();
        for (String s : FACE.split(" ")) face.add(s.substring(0, s.indexOf('(')));
        Class<?>[] inside = HeadServo.class.getDeclaredClasses();
        c.due("some twelve classes", inside.length <= 11, true);
        for (Class<?> k : inside) {
            c.due(k.getName() + " is static, not public", Modifier.isStatic(k.getModifiers())
                && !Modifier.isPublic(k.getModifiers()) && !Modifier.isProtected(k.getModifiers()), true);
            for (Method m : k.getDeclaredMethods()) {
                c.due(k.getName() + "'s " + m.getName() + " bears no public name", face.contains(m.getName()), false);
            }
            few(k);
        }
        few(HeadServo.class);
        for (Method m : HeadServo.class.getDeclaredMethods()) {
            if (!Modifier.isPublic(m.getModifiers())) {
                c.due(m.getName() + " bears no public name", face.contains(m.getName()), false);
            }
        }
    }

    private static void few(Class<?> k) {
        int fields = 0;
        for (Field f : k.getDeclaredFields()) {
            if (!Modifier.isStatic(((Member) f).getModifiers())) fields++;
        }
        c.due(k.getName() + " has some twenty fields at most", fields <= 20, true);
        for (Method m : k.getDeclaredMethods()) {
            c.due(m.getName() + " takes seven parameters at most", m.getParameterCount() <= 7, true);
        }
    }

    private static void source() throws Exception {
        String text = Files.readString(Path.of("src/main/java/HeadServo.java"), StandardCharsets.ISO_8859_1);
        for (int i = 0; i < text.length(); i++) {
            if (text.charAt(i) > 127) c.due("the sign at " + i + " is in 1 .. 127", false, true);
        }
        String bare = text.replaceAll("(?s)/\\*.*?\\*/", "").replaceAll("//[^\n]*", "").replaceAll("\"[^\"\n]*\"", "\"\"");
        for (String word : new String[] {"throw", "throws", "try", "catch", "synchronized", "assert", "package", "yield",
            "native", "volatile", "Object", "equals", "hashCode", "toString", "Thread", "float", "double", "protected",
            "import", "instanceof"}) {
            c.due("the word " + word, Pattern.compile("\\b" + word + "\\b").matcher(bare).find(), false);
        }
        for (String sign : new String[] {"->", "::", "\"\" +", "+ \"\"", "@"}) {
            c.due("the signs " + sign, bare.contains(sign), false);
        }
        Matcher called = Pattern.compile("\\b(Math|Integer|Long|System|Arrays|String)\\.(\\w+)").matcher(bare);
        List<String> fine = Arrays.asList("Math.max", "Math.min", "Math.abs", "Math.floorMod", "Integer.bitCount", "System.arraycopy");
        while (called.find()) c.due(called.group() + " stands in the rules", fine.contains(called.group()), true);
        // An object is made where a field is, or in a constructor: no call makes one.
        Matcher made = Pattern.compile("(?m)^.*\\bnew\\b.*$").matcher(bare);
        while (made.find()) {
            String line = made.group().trim();
            c.due("made once: " + line, line.startsWith("private final ") || line.matches("(texts|rows)\\[i\\] = new \\w+\\(\\);"), true);
        }
        lengths(bare);
    }

    private static void lengths(String bare) {
        String[] lines = bare.split("\n");
        int from = 0;
        for (int i = 0; i < lines.length; i++) {
            boolean head = lines[i].matches(" {4,8}(public|private) .*\\) \\{");
            if (head) from = i;
            if (lines[i].matches(" {4,8}\\}") && i - from > 62) c.due("the method that ends at line " + i + " is short", false, true);
        }
    }
}
