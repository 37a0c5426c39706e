import java.lang.reflect.Constructor;
import java.lang.reflect.Field;
import java.lang.reflect.Method;
import java.lang.reflect.Modifier;
import java.nio.file.Files;
import java.nio.file.Path;
import java.util.List;
import java.util.Set;
import java.util.TreeSet;

/** The face as the document has it, and the rules of LANGUAGE.md that can be seen from outside. */
public final class FaceTest {
    private static final String[] FACE = {
        "int grains(int)", "int pour(int,int)", "int taste(int)", "int spoon(int)", "int spoonOf(int,int)",
        "int cook(int)", "int of(int,int)", "int set(int,int,int)", "int turn(int,int)", "int as(int,int)",
        "int swap(int,int)", "int years(int)", "int now(int)", "int on(int,int,int)", "int vague()",
        "int gone(int,int)", "int strong(int,int)", "int better(int,int)", "int weight(int,int,int,int)",
        "int kind(int,int,int)", "int puts(int,int)", "int best(int)", "int dull(int)", "int feed(int,int)",
        "int wipe()", "int college()", "int sheet(int,int,int)", "long write(int,int,long)",
        "int copy(int,int,int,int,int)", "int lays(int)", "int book(int,int)", "int read(int,int,int)",
        "int image()", "int undo()", "int tear()", "int count(int)", "int status(int)",
    };
    private static final String[] RULED_OUT = {
        "throw", "throws", "try", "catch", "synchronized", "assert", "import", "package", "protected",
        "Object", "System.out", "->", "::",
    };

    public static void main(String[] args) throws Exception {
        members();
        words(Files.readString(Path.of(args.length > 0 ? args[0] : "src/main/java/StockPot.java")));
        Due.end("FaceTest");
    }

    private static String told(Method m) {
        StringBuilder told = new StringBuilder(m.getReturnType() + " " + m.getName() + "(");
        String between = "";
        for (Class<?> type : m.getParameterTypes()) {
            told.append(between).append(type);
            between = ",";
        }
        return told.append(")").toString();
    }

    private static void members() {
        Set<String> due = new TreeSet<>(Set.of(FACE));
        Set<String> names = new TreeSet<>();
        Set<String> own = new TreeSet<>();
        for (Method m : StockPot.class.getDeclaredMethods()) {
            if (Modifier.isPublic(m.getModifiers())) {
                names.add(m.getName());
                Due.is("face: " + told(m), due.remove(told(m)) ? 1 : 0, 1);
            } else {
                own.add(m.getName());
                Due.is("private: " + told(m), Modifier.isPrivate(m.getModifiers()) ? 1 : 0, 1);
            }
        }
        Due.is("missing in the face: " + due, due.size(), 0);
        for (Class<?> inside : StockPot.class.getDeclaredClasses()) {
            Due.is("static: " + inside, Modifier.isStatic(inside.getModifiers()) ? 1 : 0, 1);
            Due.is("not public: " + inside, Modifier.isPublic(inside.getModifiers()) ? 1 : 0, 0);
            for (Method m : inside.getDeclaredMethods()) {
                own.add(m.getName());
            }
        }
        own.retainAll(names);
        Due.is("names of the face borne inside: " + own, own.size(), 0);
        for (Field f : StockPot.class.getDeclaredFields()) {
            Due.is("private: " + f, Modifier.isPrivate(f.getModifiers()) ? 1 : 0, 1);
        }
        Constructor<?>[] made = StockPot.class.getDeclaredConstructors();
        Due.is("constructors", made.length, 1);
        Due.is("public and final", StockPot.class.getModifiers(), Modifier.PUBLIC | Modifier.FINAL);
    }

    private static void words(String source) {
        String code = source.replaceAll("(?s)/\\*.*?\\*/", " ").replaceAll("//[^\n]*", " ");
        Set<String> words = new TreeSet<>(List.of(code.split("[^A-Za-z]+")));
        for (String word : RULED_OUT) {
            boolean isThere = word.matches("[A-Za-z]+") ? words.contains(word) : code.contains(word);
            Due.is("ruled out: " + word, isThere ? 1 : 0, 0);
        }
    }
}
