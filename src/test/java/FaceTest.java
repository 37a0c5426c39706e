import java.lang.reflect.Constructor;
import java.lang.reflect.Field;
import java.lang.reflect.Method;
import java.lang.reflect.Modifier;
import java.nio.file.Files;
import java.nio.file.Path;
import java.util.List;
import java.util.Set;
import java.util.TreeSet;
import java.util.regex.Matcher;
import java.util.regex.Pattern;

/** The face as the document has it, and the rules of LANGUAGE.md that can be seen from outside. */
public final class FaceTest {
    private static final String[] FACE = {
        "int grains(int)", "int pour(int,int)", "int taste(int)", "int spoon(int)", "int spoonOf(int,int)",
        "int cook(int)", "int of(int,int)", "int set(int,int,int)", "int turn(int,int)", "int as(int,int)",
        "int swap(int,int)", "int years(int)", "int now(int)", "int on(int,int,int)", "int vague()",
        "int gone(int,int)", "int strong(int,int)", "int better(int,int)", "int weight(int,int,int,int)",
        "int kind(int,int,int)", "int puts(int,int)", "int best(int)", "int dull(int)", "int feed(int,int)",
        "int wipe()", "int college()", "int sheet(int,int,int)", "long write(int,int,long)",
        "int copy(int,int,int,int,int)", "int lays(int)", "int book(int,int)", "int read(int,int,int)",
        "int image()", "int undo()", "int tear()", "int count(int)", "int status(int)",
    };
    private static final String[] SECTIONS = {
        "the pot: grains pour taste spoon spoonOf", "cooks: cook of set turn as swap",
        "years: years now on vague gone strong", "what is best: better weight kind puts best dull",
        "the text: feed wipe college", "sheets: sheet write copy lays book read",
        "images: image undo tear count status",
    };
    private static final String[] RULED_OUT = {
        "throw", "throws", "try", "catch", "synchronized", "assert", "import", "package", "protected",
        "Object", "System.out", "->", "::",
    };
    private static final Pattern HEADING_OR_CALL =
        Pattern.compile("(?m)^    // ---- (.*)$|^    public (?:int|long) (\\w+)\\(");

    public static void main(String[] args) throws Exception {
        String source = Files.readString(Path.of(args.length > 0 ? args[0] : "src/main/java/StockPot.java"));
        String code = source.replaceAll("(?s)/\\*.*?\\*/", " ").replaceAll("//[^\n]*", " ");
        members();
        sections(source);
        words(code);
        library(code);
        makesNothingInACall(code);
        sizes();
        Due.end("FaceTest");
    }

    private static String told(Method m) {
        StringBuilder told = new StringBuilder(m.getReturnType() + " " + m.getName() + "(");
        String between = "";
        for (Class<?> type : m.getParameterTypes()) {
            told.append(between).append(type);
            between = ",";
        }
        return told.append(")").toString();
    }

    private static void members() {
        Set<String> due = new TreeSet<>(Set.of(FACE));
        Set<String> names = new TreeSet<>();
        Set<String> own = new TreeSet<>();
        for (Method m : StockPot.class.getDeclaredMethods()) {
            if (Modifier.isPublic(m.getModifiers())) {
                names.add(m.getName());
                Due.is("face: " + told(m), due.remove(told(m)) ? 1 : 0, 1);
            } else {
                own.add(m.getName());
                Due.is("private: " + told(m), Modifier.isPrivate(m.getModifiers()) ? 1 : 0, 1);
            }
        }
        Due.is("missing in the face: " + due, due.size(), 0);
        for (Class<?> inside : StockPot.class.getDeclaredClasses()) {
            Due.is("static: " + inside, Modifier.isStatic(inside.getModifiers()) ? 1 : 0, 1);
            Due.is("not public: " + inside, Modifier.isPublic(inside.getModifiers()) ? 1 : 0, 0);
            for (Method m : inside.getDeclaredMethods()) {
                own.add(m.getName());
            }
        }
        own.retainAll(names);
        Due.is("names of the face borne inside: " + own, own.size(), 0);
        for (Field f : StockPot.class.getDeclaredFields()) {
            Due.is("private: " + f, Modifier.isPrivate(f.getModifiers()) ? 1 : 0, 1);
        }
        Constructor<?>[] made = StockPot.class.getDeclaredConstructors();
        Due.is("constructors", made.length, 1);
        Due.is("the constructor is public", Modifier.isPublic(made[0].getModifiers()) ? 1 : 0, 1);
        Due.is("the constructor is given nothing", made[0].getParameterCount(), 0);
        Due.is("public and final", StockPot.class.getModifiers(), Modifier.PUBLIC | Modifier.FINAL);
    }

    /** What each heading of the interface stands ahead of, up to the next one. */
    private static void sections(String source) {
        Due.sentence("Ahead of the calls .. the interface says: ----");
        StringBuilder told = new StringBuilder();
        Matcher m = HEADING_OR_CALL.matcher(source);
        while (m.find()) {
            told.append(m.group(1) != null ? "\n" + m.group(1) + ":" : " " + m.group(2));
        }
        List<String> lines = List.of(told.toString().split("\n"));
        for (int i = 0; i < SECTIONS.length; i++) {
            boolean isThere = i + 1 < lines.size() && lines.get(i + 1).equals(SECTIONS[i]);
            Due.is("section " + SECTIONS[i], isThere ? 1 : 0, 1);
        }
        Due.sentence("");
    }

    private static void words(String code) {
        Set<String> words = new TreeSet<>(List.of(code.split("[^A-Za-z]+")));
        for (String word : RULED_OUT) {
            boolean isThere = word.matches("[A-Za-z]+") ? words.contains(word) : code.contains(word);
            Due.is("ruled out: " + word, isThere ? 1 : 0, 0);
        }
    }

    /** Rule 4: of the library only what it lists. */
    private static void library(String code) {
        Matcher m = Pattern.compile("\\b([A-Z][A-Za-z]*)\\.([a-z]\\w*)").matcher(code);
        while (m.find()) {
            boolean isListed = m.group().equals("System.arraycopy")
                || m.group(1).matches("Math|Integer|Long") && !m.group(2).endsWith("Exact");
            Due.is("library: " + m.group(), isListed ? 1 : 0, 1);
        }
    }

    /** All calls of a run live in one room, so rows are made with the object and used again. */
    private static void makesNothingInACall(String code) {
        for (String line : code.split("\n")) {
            boolean isMadeOnce = line.matches(" *(private )?final .* = new .*")
                || line.strip().equals("sheets[s] = new Sheet();");
            if (line.matches(".*\\bnew\\b.*")) {
                Due.is("made in a call: " + line.strip(), isMadeOnce ? 1 : 0, 1);
            }
        }
    }

    /** Rules 5 and 11: some twelve classes and twenty fields, seven parameters at most; static fields are final. */
    private static void sizes() {
        Class<?>[] inside = StockPot.class.getDeclaredClasses();
        Due.is("classes inside, " + inside.length, inside.length <= 11 ? 1 : 0, 1);
        sizesOf(StockPot.class);
        for (Class<?> of : inside) {
            sizesOf(of);
        }
    }

    private static void sizesOf(Class<?> of) {
        int fields = 0;
        for (Field f : of.getDeclaredFields()) {
            boolean isStatic = Modifier.isStatic(f.getModifiers());
            fields += isStatic ? 0 : 1;
            Due.is("static and not final: " + f, isStatic && !Modifier.isFinal(f.getModifiers()) ? 1 : 0, 0);
        }
        Due.is("fields of " + of + ", " + fields, fields <= 20 ? 1 : 0, 1);
        for (Method m : of.getDeclaredMethods()) {
            Due.is("parameters of " + m, m.getParameterCount() <= 7 ? 1 : 0, 1);
        }
    }
}
