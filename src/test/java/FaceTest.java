import java.io.IOException;
import java.lang.reflect.Constructor;
import java.lang.reflect.Field;
import java.lang.reflect.Method;
import java.lang.reflect.Modifier;
import java.nio.file.Files;
import java.nio.file.Path;
import java.util.Set;
import java.util.TreeSet;
import java.util.regex.Pattern;

/** The class has the document's face and no other, and its source keeps to the language's main rules. */
public final class FaceTest {
    private static final String[] FACE = {
        "feed(int)", "party()", "fault()", "told(int)", "kind(int,int)", "child(int,int)", "gives(int,int)",
        "thing(int,int)", "envy(int,int)", "give(int,int)", "take(int)", "swap(int,int)", "draw(int)", "drift(int)",
        "undo()", "swaps(int)", "settled(int)", "share(int)", "choice(int,int)", "bestOrder(int)", "sweets(int,int)",
        "lasts(int)", "rises(int)", "spare(int)", "dry()", "see(int,int,boolean)", "had(int)", "watch()",
        "write(int,int)", "tear()", "judge()", "seed(int)", "keep(int)", "goBack(int)"};
    private static final String[] BARRED = {
        "\\bthrow\\b", "\\btry\\b", "\\bcatch\\b", "\\bsynchronized\\b", "\\bassert\\b", "->", "::", "\\bprotected\\b",
        "^package\\b", "\\bRandom\\b", "\\bSystem\\.(?!arraycopy)", "Exact\\(", "\\binstanceof\\b", "@Override"};

    public static void main(String[] args) throws IOException {
        face();
        constants();
        source(args.length > 0 ? args[0] : "src/main/java/NineBags.java");
        Check.finish("FaceTest");
    }

    private static void face() {
        Set<String> want = new TreeSet<>(Set.of(FACE));
        Set<String> names = new TreeSet<>();
        for (String one : FACE) {
            names.add(one.substring(0, one.indexOf('(')));
        }
        for (Method method : NineBags.class.getDeclaredMethods()) {
            StringBuilder one = new StringBuilder(method.getName()).append('(');
            for (Class<?> type : method.getParameterTypes()) {
                one.append(one.charAt(one.length() - 1) == '(' ? "" : ",").append(type.getName());
            }
            String signature = one.append(')').toString();
            if (Modifier.isPublic(method.getModifiers())) {
                Check.due("in the face: " + signature, want.remove(signature));
                Check.due("answers int: " + signature, method.getReturnType() == int.class);
                Check.due("not static: " + signature, !Modifier.isStatic(method.getModifiers()));
            } else {
                Check.due("private: " + signature, Modifier.isPrivate(method.getModifiers()));
                Check.due("a name of its own: " + signature, !names.contains(method.getName()));
            }
        }
        Check.due("missing " + want, want.isEmpty());
        int modifiers = NineBags.class.getModifiers();
        Check.due("public and final", Modifier.isPublic(modifiers) && Modifier.isFinal(modifiers));
        Constructor<?>[] constructors = NineBags.class.getDeclaredConstructors();
        Check.due("one constructor", constructors.length, 1);
        Check.due("it is public", Modifier.isPublic(constructors[0].getModifiers()));
        Check.due("it takes nothing", constructors[0].getParameterCount(), 0);
        for (Class<?> inside : NineBags.class.getDeclaredClasses()) {
            Check.due("static: " + inside.getName(), Modifier.isStatic(inside.getModifiers()));
            Check.due("not public: " + inside.getName(), !Modifier.isPublic(inside.getModifiers()));
            for (Method method : inside.getDeclaredMethods()) {
                Check.due("a name of its own: " + inside.getName() + "." + method.getName(), !names.contains(method.getName()));
            }
        }
        Check.due("twelve classes at most", NineBags.class.getDeclaredClasses().length <= 11);
    }

    private static void constants() {
        Check.due("NONE", NineBags.NONE, -1);
        Check.due("UNKNOWN", NineBags.UNKNOWN, -1000000001);
        Check.due("OUTSIDE", NineBags.OUTSIDE, -1000000002);
        Check.due("NOT", NineBags.NOT, -1000000003);
        Check.due("FULL", NineBags.FULL, -1000000004);
        int open = 0;
        for (Field field : NineBags.class.getDeclaredFields()) {
            int modifiers = field.getModifiers();
            if (Modifier.isPublic(modifiers)) {
                open++;
            } else {
                Check.due("private: " + field.getName(), Modifier.isPrivate(modifiers));
            }
            Check.due("static is final: " + field.getName(), !Modifier.isStatic(modifiers) || Modifier.isFinal(modifiers));
        }
        Check.due("five open constants", open, 5);
    }

    private static void source(String path) throws IOException {
        String code = Files.readString(Path.of(path));
        for (String barred : BARRED) {
            Check.due("no " + barred + " in the source", !Pattern.compile(barred, Pattern.MULTILINE).matcher(code).find());
        }
        Check.due("plain letters alone", code.chars().allMatch(sign -> sign < 127));
        Check.due("no object but those of fields", code.lines().filter(line -> line.contains("new ")).allMatch(FaceTest::isField));
    }

    /** All rows are made with the object, so that no call adds to the room. */
    private static boolean isField(String line) {
        return line.startsWith("    private ") || line.startsWith("        private ") || line.contains("*");
    }
}
