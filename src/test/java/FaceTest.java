import java.io.IOException;
import java.lang.reflect.Field;
import java.lang.reflect.Method;
import java.lang.reflect.Modifier;
import java.nio.charset.StandardCharsets;
import java.nio.file.Files;
import java.nio.file.Path;
import java.util.ArrayList;
import java.util.List;
import java.util.TreeSet;

/** The public face is the document's and no more; and what of LANGUAGE.md can be seen in the text of the program. */
final class FaceTest {
    private static final String[] FACE = {
        "int feed(int,int,int,int,int)", "boolean end(int)", "int fault(int)", "int text(int)",
        "int level(int,int) throws java.util.NoSuchElementException", "int family(int,int)", "int hut(int,int)",
        "boolean law(int)", "boolean set(int,int)", "boolean seed(long)", "int winters(int)", "int spring()",
        "int buy(int,int)", "int undo()", "boolean hush(int,boolean)", "int waiting()", "int most(int)",
        "int needs(int)", "int odds(int,int,int)", "int tried(int,int,int,int)", "int reform(int,int)",
        "int diary(int,int,int)", "int climb(int,int)", "int full()", "int hungry(int)", "int rank(int)",
        "int met(int,int,int)", "int leap(int)", "int leanest(int)", "long mean(int,int)",
        "int advice(int,int,int,int)", "int image()", "int back()", "int count(int)"};

    public static void main(String[] args) throws IOException {
        Check.due("NONE", HeadYear.NONE, -1);
        Check.due("HIDDEN", HeadYear.HIDDEN, -1000000);
        face();
        text();
        Check.finish();
    }

    private static void face() {
        List<String> seen = new ArrayList<>();
        TreeSet<String> names = new TreeSet<>();
        List<Method> hidden = new ArrayList<>();
        for (Method m : HeadYear.class.getDeclaredMethods()) {
            if (Modifier.isPublic(m.getModifiers())) {
                seen.add(m.toGenericString().replace("public ", "").replace("HeadYear.", ""));
                names.add(m.getName());
            } else {
                hidden.add(m);
            }
        }
        for (String method : FACE) {
            Check.due("the face has " + method, seen.remove(method), true);
        }
        Check.due("the face has nothing else: " + seen, seen.size(), 0);
        for (Method m : hidden) {
            Check.due(m + " is private", Modifier.isPrivate(m.getModifiers()), true);
            Check.due(m + " bears a name of its own", names.contains(m.getName()), false);
        }
        for (Field f : HeadYear.class.getDeclaredFields()) {
            boolean told = f.getName().equals("NONE") || f.getName().equals("HIDDEN");
            Check.due(f + " is private, or told", told != Modifier.isPrivate(f.getModifiers()), true);
        }
        Check.due("public and final", HeadYear.class.getModifiers(), Modifier.PUBLIC | Modifier.FINAL);
        Check.due("one constructor", HeadYear.class.getConstructors().length, 1);
        Check.due("twelve classes", HeadYear.class.getDeclaredClasses().length <= 11, true);
        for (Class<?> inside : HeadYear.class.getDeclaredClasses()) {
            for (Method m : inside.getDeclaredMethods()) {
                Check.due(m + " bears a name of its own", names.contains(m.getName()), false);
            }
        }
    }

    private static void text() throws IOException {
        byte[] bytes = Files.readAllBytes(Path.of("src/main/java/HeadYear.java"));
        String program = new String(bytes, StandardCharsets.ISO_8859_1);
        for (byte b : bytes) {
            if (b < 0) {
                Check.due("a sign beyond 127", 1, 0);
            }
        }
        String[] banned = {"->", "::", "finally", "catch", "synchronized", "assert ", "record ", "package ",
            "Exact(", "System.out", "static {", ".stream", "var ", "double", "float", "instanceof", "Random", "Thread"};
        for (String word : banned) {
            Check.due("the program says " + word, program.contains(word), false);
        }
        methodsAreShort(program);
    }

    /** A method begins with a line that ends in ") {" or ") throws .. {" at the depth of members. */
    private static void methodsAreShort(String program) {
        int lines = 0;
        String indent = "";
        String name = "";
        for (String line : program.split("\n")) {
            String body = line.strip();
            int depth = line.length() - line.stripLeading().length();
            boolean starts = (depth == 4 || depth == 8) && body.endsWith("{") && body.contains("(")
                    && !body.startsWith("if") && !body.startsWith("for") && !body.startsWith("while")
                    && !body.startsWith("switch") && !body.startsWith("}") && !body.startsWith("do");
            if (starts) {
                name = body;
                indent = " ".repeat(depth);
                lines = 0;
            }
            lines++;
            if (line.equals(indent + "}")) {
                Check.due(name + " has sixty lines at most", lines <= 60, true);
            }
        }
    }
}
