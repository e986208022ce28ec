import java.io.IOException;
import java.lang.reflect.Constructor;
import java.lang.reflect.Field;
import java.lang.reflect.Method;
import java.lang.reflect.Modifier;
import java.nio.file.Files;
import java.nio.file.Path;
import java.util.ArrayList;
import java.util.List;
import java.util.Set;
import java.util.TreeSet;
import java.util.regex.Matcher;
import java.util.regex.Pattern;

/** The public face, and the words that LANGUAGE.md keeps out of the program. */
public final class FaceTest {
    private static final String[] METHODS = {
        "int set(int,int)", "int wire(int,int,int,int,int)", "int load(int,int)", "int days(int)", "int walk(int)",
        "int hear()", "int tighten(int)", "int ofWire(int,int)", "int known(int,int)", "int count(int)",
        "int pitchAt(int,int)", "int tensionFor(int,int)", "int fallsWith(int)", "int mostAt(int)",
        "int slackIn(int)", "int round()", "int weakest(int)", "int put(long)", "int wipe()", "int fault()",
        "int carryOut()", "int undo()", "int save(int)", "int restore(int)"};

    public static void main(String[] args) throws IOException {
        Check.about("the public face");
        Check.due("public and final", SingingWires.class.getModifiers() & (Modifier.PUBLIC | Modifier.FINAL),
                Modifier.PUBLIC | Modifier.FINAL);
        methods();
        constants();
        constructors();
        noMethodTwice();
        Check.about("LANGUAGE.md");
        words();
        shape();
        Check.end();
    }

    private static void methods() {
        Set<String> want = new TreeSet<>(Set.of(METHODS));
        for (Method method : SingingWires.class.getDeclaredMethods()) {
            if (Modifier.isPrivate(method.getModifiers())) {
                continue;
            }
            StringBuilder face = new StringBuilder(method.getReturnType() + " " + method.getName() + "(");
            for (Class<?> type : method.getParameterTypes()) {
                face.append(face.charAt(face.length() - 1) == '(' ? "" : ",").append(type);
            }
            face.append(')');
            Check.due(face + " is of the face", want.remove(face.toString()) ? 1 : 0, 1);
            Check.due(face + " is public alone", method.getModifiers(), Modifier.PUBLIC);
        }
        Check.due("missing: " + want, want.size(), 0);
    }

    private static void constants() {
        int found = 0;
        for (Field field : SingingWires.class.getDeclaredFields()) {
            if (!Modifier.isPrivate(field.getModifiers())) {
                found++;
                Check.due(field.getName(), field.getModifiers(), Modifier.PUBLIC | Modifier.STATIC | Modifier.FINAL);
            }
        }
        Check.due("constants", found, 8);
        int[] got = {SingingWires.NO_SUCH, SingingWires.BAD_VALUE, SingingWires.BAD_TEXT, SingingWires.TOO_MANY,
            SingingWires.NOT_POSSIBLE, SingingWires.NONE};
        for (int i = 0; i < got.length; i++) {
            Check.due("code " + i, got[i], -1 - i);
        }
        Check.due("CREEP", SingingWires.CREEP, 0);
        Check.due("SPARE", SingingWires.SPARE, 1);
    }

    private static void constructors() {
        Constructor<?>[] all = SingingWires.class.getDeclaredConstructors();
        Check.due("constructors", all.length, 1);
        Check.due("public", all[0].getModifiers(), Modifier.PUBLIC);
        Check.due("parameters", all[0].getParameterCount(), 0);
    }

    private static void noMethodTwice() {
        Set<String> face = new TreeSet<>();
        for (String method : METHODS) {
            face.add(method.substring(4, method.indexOf('(')));
        }
        for (Method method : SingingWires.class.getDeclaredMethods()) {
            boolean clash = Modifier.isPrivate(method.getModifiers()) && face.contains(method.getName());
            Check.due("private " + method.getName(), clash ? 1 : 0, 0);
        }
        for (Class<?> inside : SingingWires.class.getDeclaredClasses()) {
            Check.due(inside + " is static", Modifier.isStatic(inside.getModifiers()) ? 1 : 0, 1);
            Check.due(inside + " is not public", Modifier.isPublic(inside.getModifiers()) ? 1 : 0, 0);
            for (Method method : inside.getDeclaredMethods()) {
                Check.due(inside + "." + method.getName(), face.contains(method.getName()) ? 1 : 0, 0);
            }
        }
    }

    private static void words() throws IOException {
        String code = Files.readString(Path.of("src/main/java/SingingWires.java"))
                .replaceAll("(?s)/\\*.*?\\*/", " ").replaceAll("//[^\n]*", " ");
        Matcher m = Pattern.compile("\\b(throw|throws|try|catch|finally|synchronized|assert|import|package|instanceof"
                + "|Object|Thread|Random|hashCode|toString|equals|\\w+Exact|double|float)\\b|->|::|\"").matcher(code);
        while (m.find()) {
            Check.due("the word " + m.group(), 1, 0);
        }
    }

    /** Rules 5 and 11: no static state, and nothing too large. */
    private static void shape() {
        List<Class<?>> all = new ArrayList<>(List.of(SingingWires.class.getDeclaredClasses()));
        all.add(SingingWires.class);
        Check.due("at most twelve classes", all.size() <= 12 ? 1 : 0, 1);
        for (Class<?> each : all) {
            int own = 0;
            for (Field field : each.getDeclaredFields()) {
                boolean constant = Modifier.isFinal(field.getModifiers()) && field.getType().isPrimitive();
                if (Modifier.isStatic(field.getModifiers())) {
                    Check.due("static " + field + " is a constant", constant ? 1 : 0, 1);
                } else {
                    own++;
                }
            }
            Check.due(each + " has at most twenty fields", own <= 20 ? 1 : 0, 1);
            for (Method method : each.getDeclaredMethods()) {
                Check.due(method + " takes at most seven", method.getParameterCount() <= 7 ? 1 : 0, 1);
            }
        }
    }
}
