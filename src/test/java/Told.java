import java.nio.ByteBuffer;
import java.nio.charset.StandardCharsets;
import java.nio.file.Files;
import java.nio.file.Path;
import java.util.Arrays;

/** What the tests share: towers out of texts, trays out of numbers, and answers held against a sentence of the document. */
abstract class Told {
    static final int NONE = FloorsByLot.NONE;

    /** Two flats above one another, two households who live in each other's better one. */
    static final String SWAP = "flat 0 0 size 1;flat 1 0 size 2;household 1 noise 3 ears 5;household 2 noise 7 ears 2;"
        + "lives 0 1;lives 1 0;worth : (2 - people * 2 + 1) * (1 - size * 2 + 2);";

    /** Four flats, three households, one of them away; who has more people needs more room. */
    static final String FOUR = "flat 0 0 size 2;flat 1 0 size 3;flat 2 0 size 1 light 5;flat 1 1 size 2 faults 1;"
        + "household 2 noise 3 ears 1;household 1 noise 2 ears 4;household 3 age 70;lives 0 1;lives 1 0;"
        + "may : size > people - 1;worth : light * 2 + floor - faults * 3 - was;quarter 5;";

    /** Three flats on floors 0, 3, 9 where any may live. */
    static final String TALL = "flat 0 0 size 1;flat 3 0 size 1;flat 9 0 size 1;household 1;household 1;";

    private static String document = "";
    private static String sentence = "";
    private static int sentences = 0;
    private static int asked = 0;
    private static int wrong = 0;

    /** A text as bytes for the tape, with zeros behind it. */
    static ByteBuffer inTwenties(String text) {
        return ByteBuffer.wrap(Arrays.copyOf(text.getBytes(StandardCharsets.ISO_8859_1), (text.length() + 19) / 20 * 20));
    }

    static void feed(FloorsByLot x, String text) {
        ByteBuffer four = inTwenties(text);
        while (four.hasRemaining()) {
            x.feed(four.getInt(), four.getInt(), four.getInt(), four.getInt(), four.getInt());
        }
    }

    static int read(FloorsByLot x, String text) {
        feed(x, text);
        return x.tower(text.length());
    }

    static FloorsByLot of(String text) {
        FloorsByLot x = new FloorsByLot();
        int lines = read(x, text);
        if (lines < 0) {
            wrong++;
            System.out.println("can't be read (" + lines + ", place " + x.fault(1) + "): " + text);
        }
        return x;
    }

    static void tray(FloorsByLot x, int tray, long... values) {
        trayOf(x, tray, 3, values);
    }

    static void trayOf(FloorsByLot x, int tray, int sort, long... values) {
        x.numbers(tray, sort, values.length);
        for (int i = 0; i < values.length; i++) {
            x.write(tray, i, values[i]);
        }
    }

    /** Flats on floors 0 to many - 1 of column 0, of size 1. */
    static String flats(int many) {
        StringBuilder text = new StringBuilder();
        for (int f = 0; f < many; f++) {
            text.append("flat ").append(f).append(" 0 size 1;");
        }
        return text.toString();
    }

    static String households(int many) {
        return "household 1;".repeat(many);
    }

    private static String folded(String text) {
        return text.replaceAll("\\s+", " ").trim();
    }

    private static String document() {
        if (document.isEmpty()) {
            try {
                document = folded(Files.readString(Path.of("../shared/DOC.md")));
            } catch (java.io.IOException e) {
                throw new java.io.UncheckedIOException(e);
            }
        }
        return document;
    }

    /** From here on answers are held against these words, which must stand in the document. */
    static void says(String words) {
        sentence = words;
        sentences++;
        if (!document().contains(folded(words))) {
            wrong++;
            System.out.println("the document doesn't say: " + words);
        }
    }

    /** Likewise, of words in the section of one promise. */
    static void promise(int number, String words) {
        sentence = "promise " + number + ": " + words;
        sentences += words.isEmpty() ? 0 : 1;
        int from = document().indexOf("## Promise " + number + ":");
        int to = document().indexOf("## ", from + 3);
        if (from < 0 || !document().substring(from, to).contains(folded(words))) {
            wrong++;
            System.out.println("the document doesn't say in promise " + number + ": " + words);
        }
    }

    static void due(long got, long want) {
        asked++;
        if (got != want) {
            complain("answered " + got + ", due is " + want);
        }
    }

    /** Tells what is wrong, and in which lines of the test. */
    static void complain(String what) {
        wrong++;
        StringBuilder lines = new StringBuilder();
        for (StackTraceElement at : new Throwable().getStackTrace()) {
            if (!at.getClassName().equals("Told") && !at.getMethodName().equals("main")) {
                lines.append(lines.length() == 0 ? "line " : ", from ").append(at.getLineNumber());
            }
        }
        System.out.println("\"" + sentence + "\", " + lines + ": " + what);
    }

    static void end() {
        System.out.println(wrong == 0 ? "all " + asked + " answers are as due" + (sentences > 0 ? ", by " + sentences + " sentences" : "")
            : wrong + " answers are not as due");
        if (wrong != 0) {
            System.exit(1);
        }
    }
}
