/**
 * What follows from a library anew: behind each change of it, at both ends of the longest chains, and where two rules
 * meet. Each part is one at which a slip of the class would be seen by no other test that is worked out by hand.
 */
public final class LinksTest extends HouseTest {
    private static final char[] TYPES = "ABCDE".toCharArray();
    private static final String[] MEMBERS = {"a0", "a1", "b0", "b1", "c0", "c1"};

    // ---- what a change takes along ----

    private static void eachChange() {
        part("each change is seen by what is asked next");
        lib(0, "class A : D", "interface D", "class B < A", "A.a0 p n 1", "D.a0 p n 2", "B.b0 p n 3");
        due("lawful at first", x.check(0), -1);
        x.type(0, 'D', '-');
        due("type, away", x.check(0), 3);
        add(0, "interface D");
        due("type, back", x.check(0), -1);
        x.flag(0, 'A', 'f', true);
        due("flag", x.check(0), 102);
        x.flag(0, 'A', 'f', false);
        due("flag, back", x.check(0), -1);
        x.maker(0, 'A', 'v');
        due("maker", x.check(0), 105);
        x.maker(0, 'A', 'o');
        due("maker, back", x.check(0), -1);
        x.above(0, 'A', 'B');
        due("above", x.check(0), 4);
        x.above(0, 'A', '-');
        due("above, back", x.check(0), -1);
        x.under(0, 'B', 'A', true);
        due("under", x.check(0), 103);
        x.under(0, 'B', 'A', false);
        due("under, back", x.check(0), -1);
        add(0, "D.c0 p a 0");
        due("method", x.check(0), 10);
        add(0, "D.c0 - a 0");
        due("method, back", x.check(0), -1);
        add(0, "D#c0 p n 0");
        due("field", x.check(0), 306);
        add(0, "D#c0 p F 0");
        due("field, back", x.check(0), -1);
        x.release(0);
        add(1, "class A < A");
        due("another library", x.check(1), 4);
        x.copy(1, 0);
        due("copy", x.check(0), 4);
        x.fetch(0, 0);
        due("fetch", x.check(0), -1);
    }

    private static void changesOfRuns() {
        part("each change is seen by the next run");
        lib(0, "class A", "class B < A", "A.a0 p n 1", "A#a0 p n 2", "interface D", "D.b0 p n 3");
        String[] acts = {"n B", "c A a0 B", "G A a0 B", "i D b0 B"};
        due("at first", run("", acts), "0 1 2 I");
        x.under(0, 'A', 'D', true);
        due("under", run("", acts), "0 1 2 3");
        add(0, "B.a0 p n 4", "B#a0 p n 5");
        due("a method is selected by the object, a field by the type", run("", acts), "0 4 2 3");
        x.above(0, 'B', '-');
        due("above", run("", acts), "0 V");
        x.maker(0, 'B', 'k');
        due("maker", run("", acts), "L");
        x.maker(0, 'B', 'p');
        x.above(0, 'B', 'A');
        x.flag(0, 'D', 'o', false);
        due("flag", run("", acts), "0 4 2 L");
        x.type(0, 'D', 'i');
        due("a type anew", run("", acts), "0 4 2 M");
    }

    private static void firstType() {
        part("a type that stands alone in a library of a new object");
        x.type(0, 'A', 'c');
        due("no members", x.meanMembers(0), 0.0);
        due("lawful", x.check(0), -1);
        x.field(0, 'A', 'a', 0, 'p', 'n', 0);
        due("one member", x.meanMembers(0), 1.0);
        x.type(1, 'E', 'i');
        due("nor any here", x.meanMembers(1), 0.0);
        due("told", x.member(1, 'E', false, 'c', 1, 's'), '-');
    }

    /** All that is declared of a type, asked by the calls that change it, each of which puts back what it found. */
    private static String declared(int library, char type) {
        StringBuilder told = new StringBuilder();
        for (char what : "oaf".toCharArray()) {
            boolean is = x.flag(library, type, what, true);
            x.flag(library, type, what, is);
            told.append(is ? what : '-');
        }
        char maker = x.maker(library, type, 'p');
        x.maker(library, type, maker);
        char above = x.above(library, type, '-');
        x.above(library, type, above);
        told.append(maker).append(above);
        for (char other : TYPES) {
            boolean is = x.under(library, type, other, true);
            x.under(library, type, other, is);
            told.append(is ? other : '-');
        }
        for (char what : "sk".toCharArray()) {
            told.append(x.member(library, type, false, 'b', 1, what)).append(x.member(library, type, true, 'c', 0, what));
        }
        return told.toString();
    }

    private static void becomeAll() {
        part("a library becomes what another one, or that of a release, is");
        String[] lines = {"abstract class A : D E maker=o", "A.b1 o a 5", "A#c0 k n 6", "A#a0 p s 42", "A.a1 p s 43", "final closed class B < A maker=k", "B.b1 p f 7",
            "B#c0 v F 8", "abstract closed class C < A", "interface D : E", "closed interface E"};
        String[] want = {"oa-o----DEokan", "--fkA-----pvfF", "-a-pA---------", "o--p-----E----", "---p----------"};
        add(0, lines);
        due("lawful", x.check(0), -1);
        due("types", x.copy(0, 1), 5);
        x.release(1);
        for (int library = 0; library < 2; library++) {
            for (int i = 0; i < 5; i++) {
                due("type " + TYPES[i] + " of " + library, declared(library, TYPES[i]), want[i]);
            }
        }
        client(0, "", "g A a0", "s A a1");
        due("numbers", runOf(0, 1), "42 43");
        lib(1, "class A", "class B", "class C", "class D", "class E");
        due("fetched", x.fetch(0, 1), 5);
        due("numbers fetched", runOf(0, 1), "42 43");
        for (int i = 0; i < 5; i++) {
            due("type " + TYPES[i] + " fetched", declared(1, TYPES[i]), want[i]);
        }
        due("copy of all, empty ones too", x.copy(2, 1), 0);
        refused("none left", ELEMENT, () -> x.maker(1, 'A', 'p'));
    }

    // ---- the ends of chains ----

    private static void throughEach() {
        for (char middle : TYPES) {
            part("what is above is told through each type: " + middle);
            char low = middle == 'E' ? 'D' : 'E';
            char high = middle == 'C' ? 'B' : 'C';
            law(100 * (low - 'A') + 10, "class " + low + " : " + middle, "interface " + middle + " : " + high, "interface " + high, high + ".a0 p a 1");
            x.flag(0, low, 'a', true);
            due("lawful", x.check(0), -1);
            due("resolved", x.resolved(0, low, 'a', 0), high);
            add(0, middle + ".a0 p n 2");
            x.flag(0, low, 'a', false);
            x.under(0, low, high, true);
            due("the nearer one alone", x.selected(0, low, 'a', 0), middle);
            due("resolved to it", x.resolved(0, low, 'a', 0), middle);
            due("by an object", run("", "i " + high + " a0 " + low), "2");
            due("by X", run(":" + middle + ":", "i " + high + " a0 X", "c X a0 X"), "2 2");
            due("by X above both", run(":" + middle + high + ":", "i " + high + " a0 X", "c X a0 X"), "2 2");
            add(0, high + ".a0 p n 1");
            due("the nearer one of two that tell", x.selected(0, low, 'a', 0), middle);
            due("resolved to it alone", x.resolved(0, low, 'a', 0), middle);
            due("by X above two that tell", run(":" + middle + high + ":", "i " + high + " a0 X", "c X a0 X"), "2 2");
        }
    }

    private static void fieldsFromFar() {
        part("a field from the far end of the longest chain");
        lib(0, "class A < B", "class B < C", "class C < D", "class D < E", "class E", "E#c1 p s 7");
        due("upwards", run("A::", "g A c1", "g X c1"), "7 7");
        lib(0, "class A", "class B < A", "class C < B", "class D < C", "class E < D", "A#c1 p s 8");
        due("downwards", run("E::", "g E c1", "g X c1"), "8 8");
        lib(0, "interface A : B", "interface B : C", "interface C : D", "interface D : E", "interface E", "E#c1 p F 9");
        due("by interfaces", run(":A:", "g A c1", "g X c1"), "9 9");
        lib(0, "interface A", "interface B : A", "interface C : B", "interface D : C", "class E : D", "A#c1 p F 10");
        due("by interfaces, downwards", run("E::", "g E c1", "g X c1"), "10 10");
        due("by X's own", run(":D:", "g D c1", "g X c1"), "10 10");
    }

    private static void interfacesOwn() {
        part("an interface has no chain");
        lib(0, "class A", "interface B", "A.a0 p n 1", "A.a1 p s 1", "class C : B");
        due("nothing of a class's", x.resolved(0, 'B', 'a', 0), '-');
        due("nor what is static", x.resolved(0, 'B', 'a', 1), '-');
        due("nor under it", x.resolved(0, 'C', 'a', 0), '-');
        due("not found", run("", "i B a0 C"), "M");
    }

    private static void barredFromFar() {
        part("the fault 'V' by a method of the last class of the longest chain");
        for (String way : new String[] {"p f", "o f", "p s", "o s", "k f", "v f", "v s", "p n"}) {
            lib(0, "class A < B", "class B < C", "class C < D", "class D < E", "class E", "E.c1 " + way + " 7");
            boolean isBarred = "po".indexOf(way.charAt(0)) >= 0 && way.charAt(2) != 'n';
            due("by " + way, run("A::c1", "c X c1 X"), isBarred ? "V" : "100");
            due("of another shape", run("A::c0", "c X c0 X"), "100");
        }
    }

    private static void chainEndsAtInterface() {
        part("the chain ends at an interface, which is above all the same");
        String[] two = {"class A < B : D", "class B < C", "interface C", "interface D"};
        law(101, two);
        law(10, join(two, "C.a0 p n 1", "D.a0 p n 1"));
        law(101, join(two, "C.a0 p n 1", "D.a0 p a 1"));
        law(10, join(two, "C.a0 p a 1"));
        law(101, join(two, "C.a0 p s 1", "A.a0 p n 1", "D.a0 p n 1"));
        law(9, join(two, "C.a0 p n 1", "A.a0 o n 1"));
    }

    private static String[] join(String[] lines, String... more) {
        String[] all = java.util.Arrays.copyOf(lines, lines.length + more.length);
        System.arraycopy(more, 0, all, lines.length, more.length);
        return all;
    }

    private static void faultsOfLoading() {
        part("the faults of loading X, in their order");
        lib(0, "class A", "A.a0 p f 1", "class B", "interface C", "closed interface D", "final closed class E", "E.a0 p f 1");
        due("V alone", run("A::a0", "n X"), "V");
        due("V behind a good interface", run("A:C:a0", "n X"), "V");
        due("I by an interface ahead of V", run("A:B:a0", "n X"), "I");
        due("L by an interface ahead of V", run("A:D:a0", "n X"), "L");
        due("L by the second interface ahead of V", run("A:CD:a0", "n X"), "L");
        due("I by the first interface ahead of L by the second", run("A:BD:a0", "n X"), "I");
        due("I by a final superclass ahead of L", run("E::a0", "n X"), "I");
        x.flag(0, 'E', 'f', false);
        due("L by the superclass ahead of V, and I by an interface", run("E:B:a0", "n X"), "L");
        x.type(0, 'C', '-');
        due("C by an interface ahead of V", run("A:C:a0", "n X"), "C");
        due("C by the first interface ahead of L by the second", run(":CD:a0", "n X"), "C");
        due("L by the superclass ahead of C by an interface", run("E:C:a0", "n X"), "L");
        due("C by the superclass ahead of L by an interface", run("C:D:a0", "n X"), "C");
    }

    // ---- methods that are not seen from above ----

    private static void notSeen() {
        part("a method seen from above is one that is not static, and not of the sight 'v'");
        String[] ways = {"p s", "o s", "k s", "v s", "v n", "v f"};
        for (String way : ways) {
            lib(0, "class A", "class B < A : D", "interface D", "D.a0 p n 4", "A.a0 " + way + " 9");
            due("lawful, with " + way, x.check(0), -1);
            due("resolved, with " + way, x.resolved(0, 'B', 'a', 0), 'A');
            due("selected, with " + way, x.selected(0, 'B', 'a', 0), 'D');
            due("of a class, with " + way, run("", "i D a0 B"), "4");
            due("of X under it, with " + way, run("B::", "i D a0 X"), "4");
            due("of X beside it, with " + way, run("A:D:", "i D a0 X"), "4");
            due("by X itself, with " + way, run("A:D:", "c X a0 X"), way.equals("p s") || way.equals("o s") ? "I" : "L");
        }
        part("and so X's own is, above one of an interface");
        lib(0, "class A", "interface D", "D.a0 p n 4", "A.a0 v n 9");
        due("X's own", run("A:D:a0", "i D a0 X", "c X a0 X"), "100 100");
        add(0, "A.a0 k n 9");
        due("one of the sight 'k' is selected", run("A:D:", "i D a0 X"), "L");
    }

    // ---- the looker ----

    private static void pairsInOrder() {
        for (int first = 0; first < 4; first++) {
            for (int second = first + 1; second < 5; second++) {
                part("the least row of two interfaces: " + TYPES[first] + TYPES[second]);
                for (int type = first; type < 5; type++) {
                    add(0, "interface " + TYPES[type], TYPES[type] + ".b1 p " + (type == second ? "n" : "a") + " 0");
                    add(1, "interface " + TYPES[type], TYPES[type] + ".b1 p n 0");
                }
                due("least", least(), "4 -" + TYPES[first] + TYPES[second] + "-- cXb1X");
            }
        }
    }

    private static void lastTypes() {
        for (char type : TYPES) {
            for (String member : MEMBERS) {
                part("each type and member has its least client: " + type + " " + member);
                add(0, "class " + type, type + "." + member + " p s 1", type + "#" + member + " p n 1");
                x.copy(0, 1);
                add(1, type + "." + member + " o s 1");
                due("a static method", least(), "1 none s" + type + member + "-");
                x.copy(0, 1);
                add(1, type + "#" + member + " p f 1");
                due("a field", least(), "1 none P" + type + member + type);
                add(1, "abstract class " + type, type + "." + member + " p s 1", type + "#" + member + " p n 1");
                due("an object", least(), "1 none n---" + type);
            }
        }
    }

    private static void actsAheadOfOwn() {
        part("the act goes ahead of X's superclass and interfaces");
        lib(0, "abstract class A", "A.a0 p n 1", "interface E", "E.a0 p n 1");
        lib(1, "abstract class A", "interface E", "E.a0 p a 1");
        due("its type", least(), "3 A---- cAa0X");
        lib(0, "interface D", "D.b0 p n 1", "interface E", "E.a1 p n 1");
        lib(1, "interface D", "D.b0 p a 1", "interface E", "E.a1 p a 1");
        due("its name", least(), "3 -E--- cXa1X");
        add(0, "D.a1 - n 0", "E.a1 - n 0", "D.b1 p n 1", "E.b0 p n 1", "D.b0 - n 0");
        lib(1, "interface D", "D.b1 p a 1", "interface E", "E.b0 p a 1");
        due("its shape", least(), "3 -E--- cXb0X");
    }

    private static void formerRuns() {
        part("what was run, or looked at, ahead of a look changes nothing in it");
        lib(0, "class A", "A.a0 p s 1");
        lib(1, "class A", "A.a0 o s 1");
        for (int library = 0; library < 2; library++) {
            client(3, "A::", "s A a0");
            due("goes by library " + library, x.run(3, library), 1);
            due("its size behind it", x.witness(0, 1, 2), 1);
            due("goes again by library " + library, x.run(3, library), 1);
            due("least behind it", least(), "1 none sAa0-");
            due("nor back", x.fits(1, 0), true);
            client(3, "B::");
            due("none by library " + library, x.run(3, library), 0);
            due("least behind that", least(), "1 none sAa0-");
        }
        due("sound", x.isSound(), true);
        due("least behind that", least(), "1 none sAa0-");
        due("a client without X", run("", "s A a0"), "1");
        client(3, "", "s A a0");
        x.run(3, 1);
        due("sees none of the sight 'o'", x.fault(), 'L');
    }

    private static void brokenOwn() {
        part("X with its method does not load: any act that went by the old one tells it");
        String[] old = {"class A maker=k", "A.b0 p n 1", "A.c1 p s 2"};
        lib(0, old);
        lib(1, old);
        add(1, "A.b0 p f 1");
        due("one by another member", least(), "4 A--b0 sAc1-");
        add(0, "A.c1 - n 0", "A#a1 p F 3");
        add(1, "A.c1 - n 0", "A#a1 p F 3");
        due("one by a field", least(), "4 A--b0 gAa1-");
        add(0, "A#a1 - n 0");
        add(1, "A#a1 - n 0");
        due("none at all", least(), "fits");
        part("X does not load: the first object that is made tells it");
        lib(0, "abstract class A", "class B", "class E");
        lib(1, "final class A", "class B", "class E");
        due("not X itself", least(), "3 A---- n---B");
        x.flag(0, 'B', 'a', true);
        x.flag(1, 'B', 'a', true);
        due("the last", least(), "3 A---- n---E");
    }

    private static void knownByAll() {
        part("X's method, when each type has one of its name and shape");
        for (char type : TYPES) {
            add(0, "abstract class " + type, type + ".c0 p n 1");
            add(1, "abstract class " + type, type + ".c0 p n 1");
        }
        add(1, "D.c0 p f 1");
        due("least", least(), "4 D--c0 n---X");
    }

    private static void unlawfulBeside() {
        part("isSound leaves a library alone that is not lawful");
        lib(0, "class A", "class B < A", "A.a0 p n 1", "B.b0 p n 1");
        lib(1, "class A", "class B < A", "A.a0 p n 1");
        due("fits", x.fits(1, 0), true);
        x.above(0, 'A', 'C');
        due("not lawful", x.check(0), 1);
        refused("not looked at", SUPPORT, () -> x.fits(1, 0));
        refused("nor back", SUPPORT, () -> x.fits(0, 1));
        due("sound", x.isSound(), true);
        x.above(0, 'A', '-');
        add(0, "interface D", "class C : D", "D.a0 p a 1");
        due("not lawful either", x.check(0), 210);
        due("sound", x.isSound(), true);
        add(0, "C.a0 p n 1");
        due("lawful again", x.check(0), -1);
        due("sound", x.isSound(), true);
        due("fits", x.fits(1, 0), true);
    }

    private static void sumOfFlags() {
        part("1 or 0 for open, abstract and final each");
        for (int flags = 0; flags < 8; flags++) {
            x.type(3, 'E', 'i');
            x.flag(3, 'E', 'o', flags % 2 == 1);
            x.flag(3, 'E', 'a', flags / 2 % 2 == 1);
            x.flag(3, 'E', 'f', flags / 4 == 1);
            int[] type = {'i', flags % 2, flags / 2 % 2, flags / 4, 'p', '-'};
            due("flags " + flags, x.checksum(), sum(join(times(19, '-'), type, times(8, 0))));
        }
    }

    public static void main(String[] args) {
        eachChange();
        changesOfRuns();
        firstType();
        becomeAll();
        throughEach();
        fieldsFromFar();
        interfacesOwn();
        barredFromFar();
        chainEndsAtInterface();
        faultsOfLoading();
        notSeen();
        pairsInOrder();
        lastTypes();
        actsAheadOfOwn();
        formerRuns();
        brokenOwn();
        knownByAll();
        unlawfulBeside();
        sumOfFlags();
        end("LinksTest");
    }
}
