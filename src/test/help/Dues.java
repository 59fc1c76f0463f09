import java.io.IOException;
import java.io.UncheckedIOException;
import java.lang.reflect.Method;
import java.nio.file.Files;
import java.nio.file.Path;
import java.util.Arrays;
import java.util.Set;
import java.util.TreeSet;
import java.util.regex.Matcher;
import java.util.regex.Pattern;

/** What the tests of promises share: the answers that are due, calls by name, and the document's own words. */
abstract class Dues {
    static final int NONE = -1000000, BAD = -1000001, STATE = -1000002, FULL = -1000003;
    static final int NULL = -1000011, PLACE = -1000012, KIND = -1000013, SIZE = -1000014, STORE = -1000015;
    static final int LOW = Integer.MIN_VALUE, HIGH = Integer.MAX_VALUE;

    private static final String DOCUMENT = document();
    private static final Set<String> NAMED = new TreeSet<>();

    private static String promise = "";
    private static String sentence = "";
    private static int wrong = 0;

    /** Empty where the document is not at hand: then the answers alone are tested. */
    private static String document() {
        Path path = Path.of("../shared/DOC.md");
        if (!Files.isReadable(path)) {
            System.out.println("no document at " + path + ": quotes are not looked up");
            return "";
        }
        try {
            return Files.readString(path).replaceAll("\\s+", " ");
        } catch (IOException e) {
            throw new UncheckedIOException(e);
        }
    }

    /** What follows tests this promise: "4 copy". */
    static void promise(String numberAndName) {
        promise = numberAndName;
        sentence = "";
        NAMED.add(numberAndName.replaceFirst(" ", ": "));
    }

    /** What follows tests this sentence, which must stand in the document word for word. */
    static void says(String words) {
        sentence = ": \"" + words + "\"";
        if (!DOCUMENT.isEmpty() && !DOCUMENT.contains(words)) {
            fault("the document does not say this");
        }
    }

    static void fault(String what) {
        wrong++;
        System.out.println("Promise " + promise + sentence + ": " + what);
    }

    static void due(String call, int got, int want) {
        if (got != want) {
            fault(call + " answered " + got + ", due is " + want);
        }
    }

    static void answers(int want, InningsHouse x, String call, int... with) {
        due(told(call, with), called(x, call, with), want);
    }

    static String told(String call, int... with) {
        return call + Arrays.toString(with).replace('[', '(').replace(']', ')');
    }

    static int called(InningsHouse x, String call, int... with) {
        Class<?>[] types = new Class<?>[with.length];
        Object[] values = new Object[with.length];
        for (int k = 0; k < with.length; k++) {
            types[k] = int.class;
            values[k] = with[k];
        }
        try {
            Method method = InningsHouse.class.getMethod(call, types);
            return (Integer) method.invoke(x, values);
        } catch (ReflectiveOperationException e) {
            throw new IllegalStateException(told(call, with), e);
        }
    }

    static void everyPromiseIsNamed() {
        Set<String> told = new TreeSet<>();
        Matcher heading = Pattern.compile("## Promise (\\d+: (A new object|\\w+))").matcher(DOCUMENT);
        while (heading.find()) {
            told.add(heading.group(1));
        }
        if (!DOCUMENT.isEmpty() && !told.equals(NAMED)) {
            fault("the tests name the promises " + NAMED + ", the document " + told);
        }
    }

    static void end() {
        System.out.println(wrong == 0 ? "all promises hold" : wrong + " answers are not as due");
        if (wrong != 0) {
            System.exit(1);
        }
    }

    static void write(InningsHouse x, int sheet, int... items) {
        answers(items.length, x, "sheet", sheet, 2, items.length);
        for (int i = 0; i < items.length; i++) {
            answers(items[i], x, "set", sheet, i, items[i]);
        }
    }

    /** Makes THE ORDER of these STRIKERS, by SHEET 7. */
    static void orderOf(InningsHouse x, int... strikers) {
        write(x, 7, strikers);
        answers(strikers.length, x, "order", 7, 0, strikers.length);
    }

    static void orderIs(InningsHouse x, int... strikers) {
        answers(strikers.length, x, "striking", NONE);
        for (int place = 0; place < strikers.length; place++) {
            answers(strikers[place], x, "striking", place);
        }
    }

    /** 0 always a HOMER, 1 always OUT, 2 half a HOMER, half OUT, 3 always a WALK. */
    static InningsHouse withFour() {
        InningsHouse x = new InningsHouse();
        x.striker(0, 0, 0, 0, 1000, 0);
        x.striker(0, 0, 0, 0, 0, 0);
        x.striker(0, 0, 0, 0, 500, 0);
        x.striker(1000, 0, 0, 0, 0, 0);
        return x;
    }

    /** 0 plain, 1 SAFE and swift, 2 STRONG and swift, 3 QUICK, 4 with hits enough but too many OUTS. */
    static InningsHouse withKinds() {
        InningsHouse x = new InningsHouse();
        x.striker(100, 100, 100, 30, 19, 699);
        x.striker(100, 100, 100, 30, 29, 700);
        x.striker(100, 100, 100, 20, 40, 1000);
        x.striker(0, 0, 0, 0, 31, 700);
        x.striker(0, 0, 0, 100, 249, 0);
        return x;
    }
}
