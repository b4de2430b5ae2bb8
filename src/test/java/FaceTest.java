import java.io.IOException;
import java.lang.reflect.Constructor;
import java.lang.reflect.Field;
import java.lang.reflect.Method;
import java.lang.reflect.Modifier;
import java.nio.file.Files;
import java.nio.file.Path;
import java.util.Set;
import java.util.TreeSet;
import java.util.regex.Matcher;
import java.util.regex.Pattern;

/** The public face is that of the document, no more, and the file keeps to what of ../shared/LANGUAGE.md a machine sees easily. */
public final class FaceTest {
    private static final Set<String> FACE = new TreeSet<>(Set.of("int feed(long)", "int end(int)", "int text()",
        "int fault()", "int rule(int)", "int day(int,int)", "long cloth(int)", "int square(int,int)",
        "int paint(int,int,boolean)", "int wish(int,int,boolean)", "int act(int,int)", "int turn(int,int)",
        "int go(int)", "long form(int)", "long forms()", "int alike(int)", "int plan(int)", "int nearest(int)",
        "int lightest(int)", "int blind(int)", "int slanted(int)", "int power(int)", "int duel(int,boolean,int)",
        "int turned(int,int)", "int spoilt(int)", "int both(int)", "int rotate(int)", "int cut(int,int,int,int)",
        "int sew(int,boolean)", "long name(int)", "int cousin(int)", "int keep(int)", "int back(int)",
        "int sheet(int,int,int)", "int lay(int,int,int)", "int read(int,int,int,int)", "int torn()",
        "int count(int)"));
    private static final String FORBIDDEN = "throw|throws|try|catch|finally|synchronized|assert|import|package|protected"
        + "|Exception|Throwable|Error|Object|System\\.(?!arraycopy)\\w+|Random|\\w+Exact";
    private static final String FORBIDDEN_SIGNS = "->|::|\"\\s*\\+|\\+\\s*\"";
    private static final Set<String> LISTED = Set.of("Integer.bitCount", "Long.bitCount", "Math.min", "Math.max");
    private static final int LONGEST_METHOD = 60;

    private final Due due = new Due("FaceTest");

    private void face() {
        Set<String> found = new TreeSet<>();
        Set<String> hidden = new TreeSet<>();
        for (Method m : RowsColumns.class.getDeclaredMethods()) {
            if (Modifier.isPublic(m.getModifiers())) {
                String all = m.toGenericString();
                found.add(all.substring("public ".length()).replace("RowsColumns.", ""));
            } else {
                due.is("private: " + m, Modifier.isPrivate(m.getModifiers()) ? 1 : 0, 1);
                hidden.add(m.getName());
            }
        }
        System.out.print(found.equals(FACE) ? "" : "the face is " + found + "\n");
        due.is("the face", found.equals(FACE) ? 1 : 0, 1);
        for (String name : found) {
            due.is("a private method of this name: " + name, hidden.contains(name.replaceAll("^\\w+ |\\(.*", "")) ? 1 : 0, 0);
        }
        due.is("final and public", RowsColumns.class.getModifiers(), Modifier.PUBLIC | Modifier.FINAL);
        Constructor<?>[] all = RowsColumns.class.getDeclaredConstructors();
        due.is("constructors", all.length, 1);
        due.is("constructor is public", all[0].getModifiers(), Modifier.PUBLIC);
        due.is("constructor's parameters", all[0].getParameterCount(), 0);
    }

    private void fields() {
        Set<String> constants = new TreeSet<>();
        for (Field f : RowsColumns.class.getDeclaredFields()) {
            int m = f.getModifiers();
            if (Modifier.isPublic(m)) {
                constants.add(f.getType() + " " + f.getName());
                due.is("constant " + f, Modifier.isStatic(m) && Modifier.isFinal(m) ? 1 : 0, 1);
            } else {
                due.is("private: " + f, Modifier.isPrivate(m) ? 1 : 0, 1);
            }
        }
        due.is("constants", constants.equals(Set.of("int BAD", "int STATE", "int FULL", "int NONE")) ? 1 : 0, 1);
        for (Class<?> inner : RowsColumns.class.getDeclaredClasses()) {
            due.is("static: " + inner, Modifier.isStatic(inner.getModifiers()) ? 1 : 0, 1);
            due.is("not public: " + inner, Modifier.isPublic(inner.getModifiers()) ? 1 : 0, 0);
            sizes(inner);
        }
        sizes(RowsColumns.class);
        due.is("twelve classes at most", RowsColumns.class.getDeclaredClasses().length < 12 ? 1 : 0, 1);
    }

    private void words(String source) {
        String bare = source.replaceAll("(?s)/\\*.*?\\*/", "").replaceAll("//[^\n]*", "");
        Matcher word = Pattern.compile("(?<!\\w)(" + FORBIDDEN + ")(?!\\w)|" + FORBIDDEN_SIGNS).matcher(bare);
        while (word.find()) {
            due.is("forbidden: " + word.group(), 1, 0);
        }
        for (int i = 0; i < source.length(); i++) {
            due.is("sign " + (int) source.charAt(i), source.charAt(i) < 128 ? 1 : 0, 1);
        }
    }

    /** What of the library is named by a class is listed; what a run makes is made in constructors. */
    private void library(String source) {
        String bare = source.replaceAll("(?s)/\\*.*?\\*/", "").replaceAll("//[^\n]*", "");
        Matcher named = Pattern.compile("(?<![\\w.])(Integer|Long|Math|System|Arrays|String|Character|Boolean)\\.(\\w+)").matcher(bare);
        while (named.find()) {
            due.is("of the library: " + named.group(), LISTED.contains(named.group()) ? 1 : 0, 1);
        }
        for (String line : bare.split("\n")) {
            boolean field = line.matches(" +(private )?(static )?final .* = new .*;");
            boolean own = line.equals("                all[k] = new Sheet();");
            due.is("made by a call: " + line, line.contains("new ") && !field && !own ? 1 : 0, 0);
        }
    }

    private void sizes(Class<?> all) {
        int own = 0;
        for (Field f : all.getDeclaredFields()) {
            int m = f.getModifiers();
            own += Modifier.isStatic(m) ? 0 : 1;
            due.is("static, so final: " + f, Modifier.isStatic(m) && !Modifier.isFinal(m) ? 1 : 0, 0);
        }
        due.is("twenty fields at most: " + all, own <= 20 ? 1 : 0, 1);
        for (Method m : all.getDeclaredMethods()) {
            due.is("seven parameters at most: " + m, m.getParameterCount() <= 7 ? 1 : 0, 1);
            due.is("no " + m, Set.of("equals", "hashCode", "toString").contains(m.getName()) ? 1 : 0, 0);
        }
    }

    private void methods(String source) {
        int start = 0;
        int number = 0;
        for (String line : source.split("\n")) {
            number++;
            if (line.matches(" {4,8}[a-zA-Z].*\\) \\{")) {
                start = number;
            }
            if (line.matches(" {4,8}\\}")) {
                due.is("a method of at most " + LONGEST_METHOD + " lines before line " + number,
                    start == 0 || number - start < LONGEST_METHOD ? 1 : 0, 1);
                start = 0;
            }
        }
    }

    public static void main(String[] args) throws IOException {
        FaceTest test = new FaceTest();
        String source = Files.readString(Path.of(args[0]));
        test.face();
        test.fields();
        test.words(source);
        test.library(source);
        test.methods(source);
        test.due.close();
    }
}
