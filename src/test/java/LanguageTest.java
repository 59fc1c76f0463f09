import java.io.IOException;
import java.lang.reflect.Field;
import java.lang.reflect.Method;
import java.lang.reflect.Modifier;
import java.nio.file.Files;
import java.nio.file.Path;
import java.util.Set;
import java.util.TreeSet;
import java.util.regex.Matcher;
import java.util.regex.Pattern;

/** The rules of LANGUAGE.md that a program can look at: the face, the words that are ruled out, the sizes. */
public final class LanguageTest {
    private static final String FACE = "sheet 3,set 3,copy 5,drop 1,behind 3,striker 6,train 3,chance 2,order 3,"
        + "striking 1,mean 3,likely 4,worth 4,rate 0,swapped 0,best 0,team 2,game 5,log 4,learn 4,kind 1,as 2,ask 2,"
        + "trace 1,count 1,status 0";
    private static final String[] RULED_OUT = {"throw", "throws", "try", "catch", "finally", "synchronized", "assert",
        "->", "::", "Exact", "equals(", "hashCode", "toString", "Object", "Random", "System.out", "System.nano",
        "currentTime", "Thread", "static {", "volatile", "transient", "native", "double", "float", "protected",
        "package ", "Class", "getClass", "var "};
    private static final int MOST_LINES = 60, MOST_PARAMETERS = 7, MOST_CLASSES = 12, MOST_FIELDS = 20;

    private static int wrong = 0;

    public static void main(String[] args) throws IOException {
        face();
        for (Class<?> inside : InningsHouse.class.getDeclaredClasses()) {
            look(inside);
        }
        look(InningsHouse.class);
        String text = Files.readString(Path.of("src/main/java/InningsHouse.java"));
        source(text);
        faceOfDocument(text);
        System.out.println(wrong == 0 ? "the language is kept" : wrong + " rules are broken");
        if (wrong != 0) {
            System.exit(1);
        }
    }

    private static void fault(boolean isOne, String what) {
        if (isOne) {
            wrong++;
            System.out.println(what);
        }
    }

    private static void face() {
        Set<String> want = new TreeSet<>(Set.of(FACE.split(",")));
        Set<String> have = new TreeSet<>();
        for (Method m : InningsHouse.class.getDeclaredMethods()) {
            if (Modifier.isPublic(m.getModifiers())) {
                have.add(m.getName() + " " + m.getParameterCount());
                fault(m.getReturnType() != int.class, "1: " + m + " does not answer an int");
                fault(Modifier.isStatic(m.getModifiers()), "1: " + m + " is static");
            } else {
                fault(!Modifier.isPrivate(m.getModifiers()) && !m.isSynthetic(), "1: " + m + " can be seen");
            }
        }
        fault(!want.equals(have), "1: the face has " + have + ", due is " + want);
        for (Field f : InningsHouse.class.getDeclaredFields()) {
            boolean told = Set.of("NONE", "BAD", "STATE", "FULL").contains(f.getName());
            fault(told != Modifier.isPublic(f.getModifiers()), "1: " + f);
            fault(!told && !Modifier.isPrivate(f.getModifiers()), "1: " + f + " can be seen");
        }
        fault(!Modifier.isFinal(InningsHouse.class.getModifiers()), "1: the class is not final");
        fault(InningsHouse.class.getDeclaredConstructors().length != 1, "1: there is another constructor");
        fault(InningsHouse.class.getDeclaredClasses().length + 1 > MOST_CLASSES, "11: too many classes");
    }

    /** Each line of the document's face stands in the program, word for word and in the same order. */
    private static void faceOfDocument(String text) throws IOException {
        Path path = Path.of("../shared/DOC.md");
        if (!Files.isReadable(path)) {
            System.out.println("no document at " + path + ": its face is not looked up");
            return;
        }
        Matcher told = Pattern.compile("\n {4}(public [^;]*);").matcher(Files.readString(path));
        int lines = 0;
        int from = 0;
        while (told.find()) {
            lines++;
            String line = told.group(1).endsWith(")") ? told.group(1) + " {" : told.group(1) + ";";
            int at = text.indexOf("\n    " + line + "\n", from);
            fault(at < 0, "1: the face lacks, or has out of its order: " + line);
            from = Math.max(from, at);
        }
        fault(lines != FACE.split(",").length + 2, "1: the document's face has " + lines + " lines");
        headingsOfDocument(Files.readString(path), text);
    }

    /** Where the document says what stands ahead of some calls, it stands right ahead of the first of them. */
    private static void headingsOfDocument(String document, String text) {
        Matcher told = Pattern.compile("Ahead of the calls `(\\w+)`.* the interface says: (---- [^.]*)\\.")
            .matcher(document);
        int headings = 0;
        while (told.find()) {
            headings++;
            String line = "\n    // " + told.group(2) + "\n\n    public int " + told.group(1) + "(";
            fault(!text.contains(line), "1: " + told.group(2) + " does not stand ahead of " + told.group(1));
        }
        fault(headings == 0, "1: the document says nothing of what stands ahead of calls");
    }

    private static void look(Class<?> type) {
        fault(type != InningsHouse.class && !Modifier.isStatic(type.getModifiers()), "2: " + type + " is not static");
        int fields = 0;
        for (Field f : type.getDeclaredFields()) {
            if (!Modifier.isStatic(f.getModifiers())) {
                fields++;
            } else {
                fault(!Modifier.isFinal(f.getModifiers()), "5: " + f + " is static and not final");
            }
        }
        fault(fields > MOST_FIELDS, "11: " + type + " has " + fields + " fields");
        for (Method m : type.getDeclaredMethods()) {
            fault(m.getParameterCount() > MOST_PARAMETERS, "11: " + m + " has too many parameters");
            boolean named = ("," + FACE).contains("," + m.getName() + " ");
            fault(named && !Modifier.isPublic(m.getModifiers()), "1: " + m + " bears a public name");
        }
    }

    private static void source(String text) {
        String code = text.replaceAll("(?s)/\\*.*?\\*/", " ").replaceAll("//[^\n]*", " ");
        for (String word : RULED_OUT) {
            String found = Character.isLetter(word.charAt(0)) ? "\\b" + Pattern.quote(word) : Pattern.quote(word);
            found += Character.isLetter(word.charAt(word.length() - 1)) ? "\\b" : "";
            fault(Pattern.compile(found).matcher(code).find(), "6: the word " + word + " is in the program");
        }
        Matcher imports = Pattern.compile("import ([^;]*);").matcher(code);
        while (imports.find()) {
            fault(!Set.of("java.util.Arrays", "java.util.ArrayList", "java.util.List").contains(imports.group(1)),
                "4: import " + imports.group(1));
        }
        for (int k = 0; k < text.length(); k++) {
            fault(text.charAt(k) > 127, "3: a sign above 127");
        }
        methodsAreShort(text.split("\n"));
    }

    /** A method's first line stands 4 or 8 in and ends with a brace; its last is a brace as far in. */
    private static void methodsAreShort(String[] lines) {
        for (int from = 0; from < lines.length; from++) {
            Matcher head = Pattern.compile("^( {4}| {8})\\S.*\\) \\{$").matcher(lines[from]);
            if (head.matches()) {
                int to = from;
                while (to < lines.length && !lines[to].equals(head.group(1) + "}")) {
                    to++;
                }
                fault(to - from >= MOST_LINES, "11: too long: " + lines[from]);
            }
        }
    }
}
