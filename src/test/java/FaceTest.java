import java.lang.reflect.Constructor;
import java.lang.reflect.Field;
import java.lang.reflect.Member;
import java.lang.reflect.Method;
import java.lang.reflect.Modifier;
import java.io.IOException;
import java.nio.file.Files;
import java.nio.file.Path;
import java.util.List;
import java.util.Set;
import java.util.TreeSet;

/** The public face and the rules of LANGUAGE.md that can be seen by a simple look. */
public final class FaceTest {
    private static final Due DUE = new Due("FaceTest");
    private static final String FACE = "feed/5 end/1 fault/1 council/1 plan/0 rule/1 line/2 round/0 run/0 say/5 starts/1 "
        + "falseOnes/1 heard/4 peer/2 told/3 agreed/0 state/1 letters/1 trueRuler/0 greatest/2 free/0 broken/0 "
        + "brokenStarts/1 canBreak/1 brokenPlan/1 weakest/0 ruled/2 held/2 needed/0 asOthers/1 byChance/3 shown/2 "
        + "undo/0 image/0 back/0 status/1 most/1 count/1";

    public static void main(String[] args) throws IOException {
        face();
        nested();
        source();
        DUE.end();
    }

    private static void face() {
        Set<String> names = new TreeSet<>();
        for (Method m : RulerWord.class.getDeclaredMethods()) {
            if (!Modifier.isPrivate(m.getModifiers())) {
                names.add(m.getName() + "/" + m.getParameterCount());
                Class<?> answer = m.getName().equals("end") ? boolean.class : int.class;
                DUE.is(m.getName() + " is public", Modifier.isPublic(m.getModifiers()), true);
                DUE.is(m.getName() + " answers " + answer, m.getReturnType() == answer, true);
            }
        }
        DUE.is("the methods", names.toString(), new TreeSet<>(List.of(FACE.split(" "))).toString());
        for (Method m : RulerWord.class.getDeclaredMethods()) {
            if (Modifier.isPrivate(m.getModifiers())) {
                DUE.is("a private " + m.getName() + " has a name of the face", FACE.contains(m.getName() + "/"), false);
            }
        }
        int fields = 0;
        for (Field f : RulerWord.class.getDeclaredFields()) {
            fields += Modifier.isPrivate(f.getModifiers()) ? 0 : 1;
            DUE.is(f.getName() + ": static is final", isStaticAndOpen(f), false);
        }
        DUE.is("two constants are seen", fields, 2);
        DUE.is("NONE", RulerWord.NONE, -1);
        DUE.is("HIDDEN", RulerWord.HIDDEN, -1000000);
        Constructor<?>[] makers = RulerWord.class.getDeclaredConstructors();
        DUE.is("one constructor", makers.length, 1);
        DUE.is("it is public", Modifier.isPublic(makers[0].getModifiers()), true);
        DUE.is("the class is final", Modifier.isFinal(RulerWord.class.getModifiers()), true);
    }

    private static boolean isStaticAndOpen(Member f) {
        return Modifier.isStatic(f.getModifiers()) && !Modifier.isFinal(f.getModifiers());
    }

    private static void nested() {
        Class<?>[] inside = RulerWord.class.getDeclaredClasses();
        DUE.is("some twelve classes", inside.length <= 11, true);
        for (Class<?> c : inside) {
            boolean fits = Modifier.isStatic(c.getModifiers()) && Modifier.isPrivate(c.getModifiers());
            DUE.is(c.getName() + " is private and static", fits, true);
            int fields = 0;
            for (Field f : c.getDeclaredFields()) {
                fields += Modifier.isStatic(f.getModifiers()) ? 0 : 1;
                DUE.is(f.getName() + ": static is final", isStaticAndOpen(f), false);
            }
            DUE.is(c.getName() + " has some twenty fields at most: " + fields, fields <= 20, true);
            for (Method m : c.getDeclaredMethods()) {
                DUE.is(m.getName() + " takes seven at most", m.getParameterCount() <= 7, true);
                DUE.is(m.getName() + " has a name of the face", (" " + FACE).contains(" " + m.getName() + "/"), false);
            }
        }
    }

    private static void source() throws IOException {
        List<String> lines = Files.readAllLines(Path.of("src/main/java/RulerWord.java"));
        int length = 0;
        for (String line : lines) {
            String code = line.replaceAll("//.*", "").replaceAll("\"[^\"]*\"", "\"\"");
            boolean remark = line.trim().startsWith("*") || line.trim().startsWith("/*");
            if (remark) {
                continue;
            }
            for (String banned : new String[] {"->", "::", "catch", "finally", "synchronized", "assert ", "@", "package ",
                "\"\" +", "+ \"\"", "double", "float", "Exact(", "instanceof", "System.out", "var "}) {
                DUE.is("'" + banned + "' in: " + line.trim(), code.contains(banned), false);
            }
            boolean foreign = code.startsWith("import ") && !code.equals("import java.util.NoSuchElementException;");
            DUE.is("import: " + line, foreign, false);
            length = line.matches("    (    )?\\S.*\\{") ? 0 : length + 1;
            DUE.is("a method of over sixty lines near: " + line.trim(), length > 64 && line.contains("return"), false);
        }
    }
}
