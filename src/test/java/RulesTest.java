import java.lang.reflect.Field;
import java.lang.reflect.Method;
import java.lang.reflect.Modifier;
import java.nio.charset.StandardCharsets;
import java.nio.file.Files;
import java.nio.file.Path;
import java.util.HashSet;
import java.util.Set;
import java.util.regex.Pattern;

/** The rules of LANGUAGE.md that a test can see, and the face of the document. */
public final class RulesTest {
    private static final Due DUE = new Due();
    private static final String[] FACE = {"boolean clock 1", "int observer 1", "int star 3", "int night 2",
        "int record 7", "boolean strike 1", "int seen 6", "int feed 5", "int end 1", "int law 0", "int gives 2",
        "int two 4", "int rope 4", "int knot 4", "int far 2", "int own 4", "long left 3", "int best 4",
        "long scatter 2", "int finest 1", "int moved 7", "int longitude 4", "int journey 3", "int tied 1",
        "int plan 2", "int next 0", "long said 4", "boolean leans 2", "int later 5", "int mark 1", "int back 1",
        "int count 1"};

    public static void main(String[] args) throws Exception {
        face();
        inside();
        source();
        DUE.close("RulesTest");
    }

    private static void face() {
        Set<String> want = new HashSet<>(Set.of(FACE));
        Set<String> names = new HashSet<>();
        int shown = 0;
        for (Method m : EachLater.class.getDeclaredMethods()) {
            if (!Modifier.isPrivate(m.getModifiers())) {
                shown++;
                names.add(m.getName());
                String told = m.getReturnType() + " " + m.getName() + " " + m.getParameterCount();
                boolean whole = !Modifier.isStatic(m.getModifiers());
                for (Class<?> type : m.getParameterTypes()) {
                    whole &= type == int.class;
                }
                DUE.is("face: " + told, whole && Modifier.isPublic(m.getModifiers()) && want.remove(told), true);
            }
        }
        DUE.is("face: missing " + want, want.size(), 0);
        DUE.is("face: methods", shown, FACE.length);
        DUE.is("face: public, final", EachLater.class.getModifiers(), Modifier.PUBLIC | Modifier.FINAL);
        DUE.is("face: constructors", EachLater.class.getDeclaredConstructors().length, 1);
        noneHidden(EachLater.class, names);
        for (Class<?> c : EachLater.class.getDeclaredClasses()) {
            noneHidden(c, names);
        }
    }

    private static void noneHidden(Class<?> c, Set<String> names) {
        for (Method m : c.getDeclaredMethods()) {
            boolean hidden = !Modifier.isPublic(m.getModifiers()) && names.contains(m.getName());
            DUE.is("a method with a public one's name: " + m, hidden, false);
            DUE.is("parameters of " + m, m.getParameterCount() <= 7, true);
        }
    }

    private static void inside() {
        Class<?>[] classes = EachLater.class.getDeclaredClasses();
        DUE.is("classes", classes.length <= 12, true);
        fields(EachLater.class);
        for (Class<?> c : classes) {
            DUE.is("static: " + c, Modifier.isStatic(c.getModifiers()), true);
            fields(c);
        }
    }

    private static void fields(Class<?> c) {
        int held = 0;
        for (Field f : c.getDeclaredFields()) {
            if (Modifier.isStatic(f.getModifiers())) {
                boolean plain = Modifier.isFinal(f.getModifiers()) && f.getType().isPrimitive();
                DUE.is("a constant: " + f, plain, true);
            } else {
                held++;
            }
            boolean shown = c == EachLater.class && !Modifier.isPrivate(f.getModifiers());
            DUE.is("not to be shown: " + f, shown && !f.getName().equals("NONE"), false);
        }
        DUE.is("fields of " + c, held <= 20, true);
    }

    private static void source() throws Exception {
        byte[] bytes = Files.readAllBytes(Path.of("src/main/java/EachLater.java"));
        boolean plain = true;
        for (byte b : bytes) {
            plain &= b > 0;
        }
        DUE.is("signs 1 to 127", plain, true);
        String text = new String(bytes, StandardCharsets.ISO_8859_1);
        String code = text.replaceAll("(?s)/\\*.*?\\*/", "").replaceAll("//[^\n]*", "")
            .replaceAll("\"[^\"\n]*\"", "\"\"");
        String[] refused = {"\\bthrow\\b", "\\bthrows\\b", "\\btry\\b", "\\bcatch\\b", "\\bsynchronized\\b",
            "\\bassert\\b", "->", "::", "\\bimport\\b", "\\bpackage\\b", "\\bdouble\\b", "\\bfloat\\b", "Exact\\b",
            "\\bnative\\b", "\\bvolatile\\b", "\\bhashCode\\b", "\\btoString\\b", "\\binstanceof\\b", "\\bstatic \\{"};
        for (String word : refused) {
            DUE.is("no " + word, Pattern.compile(word).matcher(code).find(), false);
        }
        int start = 0;
        String[] lines = code.split("\n");
        for (int i = 0; i < lines.length; i++) {
            if (lines[i].matches(" {4,8}[a-z].*\\) \\{")) {
                start = i;
            } else if (lines[i].matches(" {4,8}\\}")) {
                DUE.is("a short method: " + lines[start].trim(), i - start <= 60, true);
            }
        }
    }
}
