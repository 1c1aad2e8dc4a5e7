import java.util.NoSuchElementException;

/**
 * What the tests share that tell libraries and clients by lines.
 *
 * A library is told by lines: "abstract final closed class B < A : C D maker=o" makes a type anew (superclass A,
 * interfaces C and D), "A.a0 p n 5" sets the method a/0 of A, "A#a0 p F 5" its field. A client's class is told as
 * "A:BC:a1" (superclass A, interfaces B and C, method a/1), as "::" with nothing, as "" not there. An act is told as
 * "c A a0 B" (kind, type, name and shape, object) without what its kind has not.
 */
abstract class HouseTest {
    static final Class<?> INDEX = IndexOutOfBoundsException.class;
    static final Class<?> RANGE = IllegalArgumentException.class;
    static final Class<?> ELEMENT = NoSuchElementException.class;
    static final Class<?> SUPPORT = UnsupportedOperationException.class;
    static final Class<?> STATE = IllegalStateException.class;
    static final Class<?> DIVISOR = ArithmeticException.class;

    interface Call {
        Object go();
    }

    static int wrong = 0;
    static int asked = 0;
    static String part = "";
    /** The house under test: each part begins with a new one. */
    static House x = new House();

    static void part(String name) {
        part = name;
        x = new House();
    }

    static void fail(String what, Object got, Object want) {
        wrong++;
        System.out.println(part + ": " + what + " answered " + got + ", due is " + want);
    }

    static void due(String what, Object got, Object want) {
        asked++;
        if (!got.equals(want)) {
            fail(what, got, want);
        }
    }

    /** What a call answers, or the class of what it throws. */
    static Object outcome(Call call) {
        try {
            return call.go();
        } catch (RuntimeException one) {
            return one.getClass();
        }
    }

    /** A call that must throw just this exception, and change nothing. */
    static void refused(String what, Class<?> want, Call call) {
        long before = x.checksum();
        due(what, outcome(call), want);
        if (x.checksum() != before) {
            fail(what, "a change", "none");
        }
    }

    /** Ends a test's main method. */
    static void end(String name) {
        System.out.println(name + ": " + asked + " answers, " + wrong + " wrong");
        if (wrong != 0) {
            System.exit(1);
        }
    }

    // ---- telling libraries and clients ----

    static void lib(int library, String... lines) {
        for (char type = 'A'; type <= 'E'; type++) {
            x.type(library, type, '-');
        }
        add(library, lines);
    }

    static void add(int library, String... lines) {
        for (String line : lines) {
            if (line.contains("class ") || line.contains("interface ")) {
                addType(library, line.split(" "));
            } else {
                addMember(library, line);
            }
        }
    }

    static void addType(int library, String[] words) {
        char type = '-';
        boolean isFurther = false;
        for (int i = 0; i < words.length; i++) {
            String word = words[i];
            if (word.equals("class") || word.equals("interface")) {
                i++;
                type = words[i].charAt(0);
                x.type(library, type, word.charAt(0));
            } else if (word.equals("<")) {
                i++;
                x.above(library, type, words[i].charAt(0));
            } else if (word.startsWith("maker=")) {
                x.maker(library, type, word.charAt(6));
            } else if (word.equals(":")) {
                isFurther = true;
            } else if (isFurther) {
                x.under(library, type, word.charAt(0), true);
            }
        }
        for (String word : words) {
            if (word.equals("abstract") || word.equals("final")) {
                x.flag(library, type, word.charAt(0), true);
            } else if (word.equals("closed")) {
                x.flag(library, type, 'o', false);
            }
        }
    }

    static void addMember(int library, String line) {
        String[] words = line.split(" ");
        char type = line.charAt(0);
        char name = line.charAt(2);
        int shape = line.charAt(3) - '0';
        int number = Integer.parseInt(words[3]);
        if (line.charAt(1) == '.') {
            x.method(library, type, name, shape, words[1].charAt(0), words[2].charAt(0), number);
        } else {
            x.field(library, type, name, shape, words[1].charAt(0), words[2].charAt(0), number);
        }
    }

    static void client(int client, String own, String... acts) {
        x.wipe(client);
        if (!own.isEmpty()) {
            String[] parts = own.split(":", -1);
            x.own(client, true);
            x.ownAbove(client, parts[0].isEmpty() ? '-' : parts[0].charAt(0));
            for (char one : parts[1].toCharArray()) {
                x.ownUnder(client, one, true);
            }
            x.ownMethod(client, parts[2].isEmpty() ? '-' : parts[2].charAt(0), parts[2].endsWith("1") ? 1 : 0);
        }
        for (String act : acts) {
            addAct(client, act.split(" "));
        }
    }

    static void addAct(int client, String[] words) {
        char kind = words[0].charAt(0);
        int at = 1;
        char type = '?';
        char name = '?';
        int shape = -9;
        char object = '?';
        if ("scigpGP".indexOf(kind) >= 0) {
            type = words[at++].charAt(0);
        }
        if (kind != 'n') {
            name = words[at].charAt(0);
            shape = words[at++].charAt(1) - '0';
        }
        if ("nciGP".indexOf(kind) >= 0) {
            object = words[at++].charAt(0);
        }
        x.act(client, kind, type, name, shape, object);
    }

    /** What a run of a client by library 0 tells: its answers, and its fault behind them. */
    static String run(String own, String... acts) {
        client(3, own, acts);
        return runOf(3, 0);
    }

    static String runOf(int client, int library) {
        int went = x.run(client, library);
        StringBuilder told = new StringBuilder();
        for (int i = 0; i < went; i++) {
            told.append(x.answer(i)).append(' ');
        }
        char fault = x.fault();
        return (fault == '-' ? told.toString() : told.toString() + fault).trim();
    }

    static String told(int client) {
        StringBuilder told = new StringBuilder();
        try {
            x.tells(client, -1, 't');
            for (char what : "tijns".toCharArray()) {
                told.append(x.tells(client, -1, what));
            }
        } catch (NoSuchElementException one) {
            told.append("none");
        }
        for (int i = 0; i < 8; i++) {
            try {
                x.tells(client, i, 'k');
            } catch (NoSuchElementException one) {
                return told.toString();
            }
            told.append(' ');
            for (char what : "ktnso".toCharArray()) {
                told.append(x.tells(client, i, what));
            }
        }
        return told.toString();
    }

    /** Checks a library in a house of its own. */
    static void law(int want, String... lines) {
        x = new House();
        add(0, lines);
        due("check of " + String.join(", ", lines), x.check(0), want);
    }

    /** The least client by which library 1 is seen not to fit library 0, or "fits". */
    static String least() {
        boolean isFitting = x.fits(0, 1);
        long before = x.checksum();
        try {
            int size = x.witness(0, 1, 2);
            due("fits beside a witness", isFitting, false);
            due("it goes by the old one", runOf(2, 0).length() > 0 && x.fault() == '-', true);
            x.run(2, 1);
            due("it has a fault by the new one", x.fault() != '-', true);
            return size + " " + told(2);
        } catch (NoSuchElementException one) {
            due("fits without a witness", isFitting, true);
            due("nothing changed", x.checksum(), before);
            return "fits";
        }
    }

    static String numbers() {
        StringBuilder all = new StringBuilder();
        for (int i = 0; i < x.releases(); i++) {
            all.append(x.number(i, 0)).append('.').append(x.number(i, 1)).append('.').append(x.number(i, 2)).append(' ');
        }
        return all.toString().trim();
    }

    static long sum(int... all) {
        long sum = 7;
        for (int one : all) {
            sum = 31 * sum + one;
        }
        return sum;
    }

    static int[] join(int[]... rows) {
        int count = 0;
        for (int[] row : rows) {
            count += row.length;
        }
        int[] all = new int[count];
        int at = 0;
        for (int[] row : rows) {
            System.arraycopy(row, 0, all, at, row.length);
            at += row.length;
        }
        return all;
    }

    static int[] times(int count, int one) {
        int[] all = new int[count];
        java.util.Arrays.fill(all, one);
        return all;
    }
}
