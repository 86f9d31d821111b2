import java.util.TreeSet;

/**
 * What tests of single sentences share. A test opens a sentence with the words that the document says it in, and asks
 * what is due under it; words that the document does not have there, and a sentence under which nothing was asked, are
 * faults of the test.
 */
abstract class Sentences {
    static final int NONE = -1, UNKNOWN = -1000000001, OUTSIDE = -1000000002, NOT = -1000000003, FULL = -1000000004;
    static final int MIN = Integer.MIN_VALUE, MAX = Integer.MAX_VALUE;

    private static final TreeSet<Integer> PROMISES = new TreeSet<>();
    private static final TreeSet<String> OPENED = new TreeSet<>();

    private static String where = "";
    private static int asked = 1;
    private static int wrong = 0;

    /** A call, or several, whose answer is looked at. */
    interface Call {
        int on(Noted x);
    }

    /** Something that makes a new object, always the same. */
    interface Maker {
        Noted make();
    }

    static void promise(int number, String words) {
        PROMISES.add(number);
        open("## Promise " + number + ":", words);
    }

    static void terms(String words) {
        open("## Terms", words);
    }

    static void whatItIs(String words) {
        open("## What it is", words);
    }

    static void face(String words) {
        open("## The public face", words);
    }

    static void due(int got, int want) {
        asked++;
        if (got != want) {
            fault(Noted.latest() + " answered " + got + ", due is " + want);
        }
    }

    static void due(String what, String got, String want) {
        asked++;
        if (!got.equals(want)) {
            fault(what + " is " + got + ", due is " + want);
        }
    }

    static void holds(String what, boolean holds) {
        asked++;
        if (!holds) {
            fault(what + " does not hold");
        }
    }

    static void dueRow(Noted x, int piece, int... numbers) {
        due(x.row(piece, 0), numbers.length);
        for (int i = 0; i < numbers.length; i++) {
            due(x.at(piece, i), numbers[i]);
        }
    }

    static void fault(String what) {
        wrong++;
        System.out.println(where + ": " + what);
    }

    static void everyPromiseFrom(int first, int last) {
        for (int number = first; number <= last; number++) {
            if (!PROMISES.contains(number)) {
                fault("promise " + number + " has no test here");
            }
        }
    }

    static void finish(String name) {
        mustHaveAsked();
        System.out.println(name + ": " + (wrong == 0 ? OPENED.size() + " sentences hold" : wrong + " faults"));
        if (wrong != 0) {
            System.exit(1);
        }
    }

    private static void open(String heading, String words) {
        mustHaveAsked();
        where = heading.substring(3) + " \"" + words + "\"";
        asked = 0;
        OPENED.add(where);
        if (!Document.section(heading).contains(words)) {
            fault("the document does not say this there");
        }
    }

    private static void mustHaveAsked() {
        if (asked == 0) {
            fault("nothing was asked");
        }
    }
}
