import java.math.BigInteger;

/**
 * The sentences of the document that name a boundary case, one by one: each part's name is the sentence, or what it
 * says in short. What is thrown for arguments beyond their ranges is told by RangeTest.
 */
public final class EdgesTest extends HouseTest {
    private static final String[] FIVE = {"class A", "class B", "class C", "interface D", "interface E"};
    private static final char[] TYPES = "ABCDE".toCharArray();
    private static final char[] SIGHTS = "pokv".toCharArray();

    // ---- Terms ----

    private static void lastCall() {
        part("An object is used for at most 512 calls");
        lib(0, "class A", "A.a0 p n 7");
        client(1, "", "c A a0 A");
        while (x.calls() < House.CALLS - 2) {
            due("releases", x.releases(), 0);
        }
        due("the call ahead of the last", x.run(1, 0), 1);
        due("the last call", x.answer(0), 7);
    }

    private static void noTypes() {
        part("the libraries 0 to 3, without types at first");
        for (int library = 0; library < 4; library++) {
            int l = library;
            due("lawful", x.check(l), -1);
            due("types of a copy", x.copy(l, 3 - l), 0);
            due("fits itself", x.fits(l, l), true);
            due("fits the next", x.fits(l, (l + 1) % 4), true);
            refused("no least client", ELEMENT, () -> x.witness(l, 3 - l, 0));
            refused("no share", DIVISOR, () -> x.openShare(l));
            refused("no mean", DIVISOR, () -> x.meanMembers(l));
            due("X runs", x.run(l, l), 0);
            for (char type : TYPES) {
                refused("no such type", ELEMENT, () -> x.resolved(l, type, 'a', 0));
                refused("no such class", ELEMENT, () -> x.selected(l, type, 'a', 0));
            }
        }
        due("X runs by it", run("::a"), "");
        due("X makes itself", run("::", "n X"), "0");
        due("nothing to make", run("", "n A"), "C");
        due("a release", x.release(0), 1);
        due("fetched", x.fetch(0, 1), 0);
        due("sound", x.isSound(), true);
        lib(1, FIVE);
        due("all fit it", x.fits(0, 1), true);
        due("it fits none with a type", x.witness(1, 0, 0), 1);
    }

    private static void fiveTypes() {
        part("a library has the types 'A' to 'E'");
        lib(0, FIVE);
        for (char type : TYPES) {
            for (String member : new String[] {"a0", "a1", "b0", "b1", "c0", "c1"}) {
                add(0, type + "." + member + (type < 'D' ? " v n 99" : " p s 0"), type + "#" + member + " p F 99");
            }
        }
        due("lawful", x.check(0), -1);
        due("types of a copy", x.copy(0, 1), 5);
        due("share", x.openShare(0), 1.0f);
        due("mean of six methods and six fields", x.meanMembers(0), 12.0);
        due("fits itself", x.fits(0, 1), true);
        x.flag(1, 'E', 'o', false);
        due("share but for one", x.openShare(1), 4.0f / 5.0f);
        x.field(1, 'E', 'c', 1, '-', 'F', 0);
        due("mean but for one", x.meanMembers(1), 59.0 / 5.0);
        due("types of a release", x.release(0), 1);
        due("fetched", x.fetch(0, 2), 5);
        due("the last field of the last type", run("", "g E c1"), "99");
        due("the last method of the last type", run("", "s E c1"), "0");
        x.type(0, 'A', '-');
        due("one less", x.copy(0, 3), 4);
        due("the release stays", x.fetch(0, 3), 5);
    }

    private static void newType() {
        part("A new one is open, not abstract, not final, its maker has the sight 'p', without anything");
        for (char kind : "ci".toCharArray()) {
            for (char type : TYPES) {
                x.type(0, type, kind);
                due("open", x.flag(0, type, 'o', true), true);
                due("abstract", x.flag(0, type, 'a', false), false);
                due("final", x.flag(0, type, 'f', false), false);
                due("maker", x.maker(0, type, 'p'), 'p');
                due("superclass", x.above(0, type, '-'), '-');
                for (char other : TYPES) {
                    due("interface", x.under(0, type, other, false), false);
                }
                for (int i = 0; i < 6; i++) {
                    char name = (char) ('a' + i / 2);
                    due("method", x.member(0, type, false, name, i % 2, 's'), '-');
                    due("field", x.member(0, type, true, name, i % 2, 'k'), '-');
                }
            }
            lib(0);
        }
    }

    private static void oneOfEach() {
        part("at most one method, and at most one field, of each name and shape");
        lib(0, "class A");
        for (int i = 0; i < 6; i++) {
            char name = (char) ('a' + i / 2);
            due("method", x.method(0, 'A', name, i % 2, 'p', 'n', i), '-');
            due("field", x.field(0, 'A', name, i % 2, 'p', 'n', 90 + i), '-');
        }
        due("six of each", x.meanMembers(0), 12.0);
        due("method again", x.method(0, 'A', 'b', 1, 'o', 'f', 99), 'p');
        due("field again", x.field(0, 'A', 'b', 1, 'k', 'F', 0), 'p');
        due("still six of each", x.meanMembers(0), 12.0);
        due("the method's sight", x.member(0, 'A', false, 'b', 1, 's'), 'o');
        due("the field's sight", x.member(0, 'A', true, 'b', 1, 's'), 'k');
        due("the first", run("", "c A a0 A", "G A a0 A"), "0 90");
        due("the last", run("", "c A c1 A", "G A c1 A"), "5 95");
        due("none taken away", x.method(0, 'A', 'b', 1, '-', 'n', 0), 'o');
        due("the field stays", x.member(0, 'A', true, 'b', 1, 'k'), 'F');
    }

    private static void numbersTold() {
        part("a number, 0 to 99");
        lib(0, "class A", "A.a0 p n 0", "A.a1 p n 99", "A.b0 p s 0", "A.b1 p s 99", "A#a0 p n 0", "A#a1 p f 99", "A#b0 p s 0", "A#b1 p F 99");
        due("methods", run("", "c A a0 A", "c A a1 A", "s A b0", "s A b1"), "0 99 0 99");
        due("fields", run("", "G A a0 A", "G A a1 A", "g A b0", "g A b1"), "0 99 0 99");
        due("X's, beyond them", run("::a1", "c X a1 X"), "100");
        lib(1, "abstract class A", "A.a0 p a 99");
        long all = x.checksum();
        add(1, "A.a0 p a 98");
        due("kept by an abstract one too", x.checksum() == all, false);
        add(1, "A.a0 p a 99");
        due("and set again", x.checksum(), all);
    }

    private static void chains() {
        part("the chain ends at one that is not there, is an interface, or would come again");
        law(101, "class A < B", "class B < C", "A.a0 p n 1");
        law(101, "class A < B", "class B < C", "interface C", "A.a0 p n 1", "C.a0 p s 1");
        law(-1, "class A < B", "class B < C", "class C", "A.a0 v n 1", "C.a0 v f 1");
        law(8, "class A < B", "class B < C", "class C", "A.a0 p n 1", "C.a0 p s 1");
        law(104, "class A < B", "class B < C", "class C < B", "A.a0 p n 1");
        law(8, "class A < B", "class B < C", "class C < B", "A.a0 p n 1", "C.a0 p s 1");
        law(10, "class A < B", "abstract class B < C", "abstract class C < B", "C.a0 p a 1");
        law(104, "class A < B", "class B < C", "class C < D", "class D < E", "class E < B");
        law(8, "class A < B", "class B < C", "class C < D", "class D < E", "class E < B", "A.a0 p n 1", "E.a0 p f 1");
        law(-1, "class A < B", "class B < C", "class C < D", "class D < E", "class E", "E.a0 p n 1");
        due("the longest", run("A::", "c A a0 X", "c X a0 X", "c A a0 A"), "1 1 1");
        law(-1, "class A", "class B < A", "class C < B", "class D < C", "class E < D", "A.a0 p n 1");
        due("the longest from the last", run("E::", "c A a0 X", "c X a0 X", "c E a0 E"), "1 1 1");
    }

    private static void loops() {
        part("it is above itself");
        law(4, "class A < A");
        law(4, "interface A : A");
        law(4, "class A < B", "class B < A");
        law(404, "class E < E");
        law(4, "class A < B", "class B < C", "class C < D", "class D < E", "class E < A");
        law(4, "interface A : B", "interface B : C", "interface C : D", "interface D : E", "interface E : A");
        law(4, "class A : D", "interface D : E", "interface E < A");
        law(104, "class A", "class B < C", "class C < B");
        law(304, "class A : D", "interface D : D");
        law(204, "class A : D", "class B : D", "interface C : D", "interface D : E", "interface E : C");
        part("Of a type that is above itself nothing further is asked");
        law(4, "abstract final class B", "abstract class A < A", "A.a0 v a 1");
        law(4, "class A < C", "class C < A maker=v", "A.a0 p a 1", "C.a0 p f 1");
        law(4, "interface A : A", "A.a0 o f 1", "A#a0 v n 1");
    }

    private static void noChainAgain() {
        part("a loop that is taken away again");
        lib(0, "class A < B", "class B < A", "A.a0 p n 3");
        due("a loop", x.check(0), 4);
        refused("resolved", SUPPORT, () -> x.resolved(0, 'A', 'a', 0));
        x.above(0, 'A', '-');
        due("no loop", x.check(0), -1);
        due("resolved then", x.resolved(0, 'B', 'a', 0), 'A');
        due("run then", run("", "c B a0 B"), "3");
    }

    // ---- the ten things ----

    private static void tenThings() {
        part("100 times the number of the first type, from 0, and the number of what is so");
        String first = "ABCDE";
        for (int i = 0; i < 5; i++) {
            char a = first.charAt(i);
            char b = first.charAt((i + 1) % 5);
            law(100 * i + 1, "class " + a + " < " + b);
            law(100 * i + 2, "class " + a + " < " + b, "final class " + b);
            law(100 * i + 3, "class " + a + " : " + b);
            law(100 * i + 4, "class " + a + " < " + a);
            law(100 * i + 5, "abstract final class " + a);
            law(100 * i + 6, "interface " + a, a + ".c1 o n 0");
            law(100 * i + 7, "class " + a, a + ".c1 p a 0");
            law(100 * i + 8, "class " + a + " < " + b, "class " + b, a + ".c1 p n 0", b + ".c1 p s 0");
            law(100 * i + 9, "class " + a + " : " + b, "interface " + b, a + ".c1 o n 0", b + ".c1 p n 0");
            law(100 * i + 10, "class " + a + " : " + b, "interface " + b, b + ".c1 p a 0");
        }
        law(10, "class A : E", "interface E", "E.a0 p a 0", "class B < C");
        law(101, "class A", "class B < C", "final class E", "class D < E");
        law(410, "class A", "class B", "class C", "interface D", "class E : D", "D.a0 p a 0");
    }

    private static void orderOfThings() {
        part("asked in this order");
        law(1, "class A < E", "final interface E");
        law(1, "class A < E : D", "class D");
        law(1, "class A < E", "interface E : A");
        law(1, "abstract final class A < E");
        law(1, "interface A < E", "A.a0 o n 0");
        law(1, "class A < E", "A.a0 p a 0");
        law(1, "class A < E : D", "interface D", "D.a0 p n 0", "A.a0 o n 0");
        law(1, "class A < E : D", "interface D", "D.a0 p a 0");
        law(2, "class A < E : D", "final class E");
        law(2, "final class A < A");
        law(2, "abstract final class A < E", "final class E");
        law(2, "interface A < E", "final class E", "A.a0 o n 0");
        law(2, "class A < E", "final class E", "A.a0 p a 0");
        law(2, "class A < E", "final class E", "A.a0 p n 0", "E.a0 p f 0");
        law(2, "class A < E : D", "final class E", "interface D", "D.a0 p n 0", "A.a0 o n 0");
        law(2, "class A < E : D", "final class E", "interface D", "D.a0 p a 0");
        law(3, "class A : A");
        law(3, "abstract final class A : B");
        law(3, "interface A : B", "A.a0 o n 0");
        law(3, "class A : B", "A.a0 p a 0");
        law(3, "class A < E : B", "class E", "A.a0 p n 0", "E.a0 p f 0");
        law(3, "class A : B D", "interface D", "A.a0 p s 0", "D.a0 p n 0");
        law(3, "class A : B D", "interface D", "D.a0 p a 0");
        law(5, "abstract final interface A", "A.a0 o n 0");
        law(5, "abstract final class A", "A.a0 v a 0");
        law(5, "class A < E", "class E maker=v", "A.a0 p n 0", "E.a0 p f 0");
        law(5, "abstract final class A : D", "interface D", "A.a0 p s 0", "D.a0 p n 0");
        law(5, "class A < E : D", "class E maker=v", "interface D", "D.a0 p a 0");
        law(6, "interface A", "A.a0 v a 0");
        law(6, "interface A : D", "interface D", "A.a0 o n 0", "D.a0 p n 0");
        law(7, "class A < E", "class E", "A.a0 p a 0", "E.a0 p f 0");
        law(7, "abstract class A : D", "interface D", "A.a0 v a 0", "D.a0 p n 0");
        law(7, "class A : D", "interface D", "A.a0 p a 0", "D.b0 p a 0");
        law(8, "class A < E : D", "class E", "interface D", "A.a0 o n 0", "E.a0 p n 0", "D.a0 p n 0");
        law(8, "class A < E : D", "class E", "interface D", "A.a0 p n 0", "E.a0 p f 0", "D.b0 p a 0");
        law(9, "class A : D", "interface D", "A.a0 o n 0", "D.a0 p n 0", "D.b0 p a 0");
    }

    private static void sightsOfLaws() {
        part("its own sight lets fewer see");
        for (int further = 0; further < 4; further++) {
            for (int own = 0; own < 4; own++) {
                int want = SIGHTS[further] != 'v' && own > further ? 8 : -1;
                law(want, "class A < B", "class B", "A.b1 " + SIGHTS[own] + " n 0", "B.b1 " + SIGHTS[further] + " n 0");
            }
        }
        part("one of both is static and the other is not, or that one is final");
        for (char further : "nsaf".toCharArray()) {
            for (char own : "nsaf".toCharArray()) {
                int want = (further == 's') != (own == 's') || further == 'f' ? 8 : -1;
                law(want, "abstract class A < B", "abstract class B", "A.b1 p " + own + " 0", "B.b1 p " + further + " 0");
                law(-1, "abstract class A < B", "abstract class B", "A.b1 p " + own + " 0", "B.b0 p " + further + " 0");
            }
        }
        part("an interface's methods and fields");
        for (char sight : SIGHTS) {
            for (char kind : "nsaf".toCharArray()) {
                law(sight == 'p' && kind != 'f' ? -1 : 6, "interface A", "A.a0 " + sight + " " + kind + " 0");
            }
            for (char kind : "nsfF".toCharArray()) {
                law(sight == 'p' && kind == 'F' ? -1 : 6, "interface A", "A#a0 " + sight + " " + kind + " 0");
            }
        }
        part("an abstract method of the sight 'v', or in a class that is not abstract");
        for (char sight : SIGHTS) {
            law(sight == 'v' ? 7 : -1, "abstract class A", "A.a0 " + sight + " a 0");
            law(7, "class A", "A.a0 " + sight + " a 0");
        }
        part("static, or not of the sight 'p', above an interface's");
        for (char sight : SIGHTS) {
            for (char kind : "nsf".toCharArray()) {
                boolean isWrong = sight != 'p' || kind == 's';
                law(isWrong ? 9 : -1, "class A : D", "interface D", "A.a0 " + sight + " " + kind + " 0", "D.a0 p n 0");
                law(-1, "class A : D", "interface D", "A.a0 " + sight + " " + kind + " 0", "D.a0 p s 0");
            }
        }
        part("the superclass's maker has the sight 'v'");
        for (char sight : SIGHTS) {
            law(sight == 'v' ? 5 : -1, "class A < B", "class B maker=" + sight);
        }
    }

    // ---- clients ----

    private static void twoInterfaces() {
        for (char first : TYPES) {
            part("X has at most 2 interfaces");
            for (char second : TYPES) {
                x.wipe(0);
                x.own(0, true);
                x.ownUnder(0, first, true);
                due("the second", x.ownUnder(0, second, true), first == second);
                char low = (char) Math.min(first, second);
                char high = first == second ? '-' : (char) Math.max(first, second);
                due("by letters", told(0), "-" + low + high + "--");
                char third = first != 'E' && second != 'E' ? 'E' : first != 'A' && second != 'A' ? 'A' : 'C';
                if (first != second) {
                    due("the first again", x.ownUnder(0, first, true), true);
                }
                if (first != second && third != first && third != second) {
                    refused("the third", STATE, () -> x.ownUnder(0, third, true));
                    due("the third taken away", x.ownUnder(0, third, false), false);
                    due("both stay", told(0), "-" + low + high + "--");
                }
            }
        }
    }

    private static void eightActs() {
        part("a client has at most 8 acts");
        for (int i = 0; i < 4; i++) {
            int client = i;
            for (int count = 1; count <= 8; count++) {
                due("acts", x.act(client, 'n', 'A', 'a', 0, count == 8 ? 'E' : 'A'), count);
            }
            refused("the ninth", STATE, () -> x.act(client, 'n', 'A', 'a', 0, 'A'));
            due("the eighth", x.tells(client, 7, 'o'), 'E');
            refused("no ninth", ELEMENT, () -> x.tells(client, 8, 'o'));
            refused("no ninth, whatever of it", ELEMENT, () -> x.tells(client, 8, '?'));
        }
        lib(0, "class A", "class E", "A.a0 p n 1");
        lib(1, "class A", "class E");
        due("run", x.run(3, 0), 8);
        due("the last answer", x.answer(7), 0);
        refused("none behind it", ELEMENT, () -> x.answer(8));
        due("wiped", x.wipe(3), 8);
        due("room again", x.act(3, 'n', 'A', 'a', 0, 'A'), 1);
        due("the least client, in the place of a full one", x.witness(0, 1, 2), 1);
        due("it alone", told(2), "none cAa0A");
        due("a second act behind it", x.act(2, 'n', 'A', 'a', 0, 'A'), 2);
    }

    private static void firstFault() {
        part("up to the first fault");
        lib(0, "class A", "A.a0 p n 9");
        for (int at = 0; at < 8; at++) {
            x.wipe(0);
            for (int i = 0; i < 8; i++) {
                x.act(0, i == at ? 'n' : 'c', 'A', 'a', 0, i == at ? 'B' : 'A');
            }
            due("acts", x.run(0, 0), at);
            due("fault", x.fault(), 'C');
            due("the last that went through", outcome(() -> x.answer(7)), ELEMENT);
            for (int i = 0; i < 8; i++) {
                int place = i;
                due("answer " + i, outcome(() -> x.answer(place)), i < at ? (Object) 9 : ELEMENT);
            }
        }
        part("X is loaded ahead of all acts, also if there are none");
        lib(0, "closed class A");
        client(0, "A::");
        due("no act", x.run(0, 0), 0);
        due("its fault", x.fault(), 'L');
        refused("no release by which it runs", ELEMENT, () -> x.since(0));
        x.release(0);
        refused("nor by this one", ELEMENT, () -> x.since(0));
    }

    private static void ownOrNone() {
        part("a client without X has no act 'u', nor 'X' as a type or object");
        for (char kind : "nsciugpGP".toCharArray()) {
            refused("X everywhere, by " + kind, RANGE, () -> x.act(0, kind, 'X', 'a', 0, 'X'));
            boolean isLookedAt = "scigpGP".indexOf(kind) >= 0;
            if (isLookedAt || kind == 'u') {
                refused("X as a type, by " + kind, RANGE, () -> x.act(0, kind, 'X', 'a', 0, 'A'));
            }
        }
        x.own(0, true);
        int count = 0;
        for (char kind : "nsciugpG".toCharArray()) {
            count++;
            due("with X, by " + kind, x.act(0, kind, 'X', 'a', 0, 'X'), count);
        }
        due("told", told(0), "----- n---X sXa0- cXa0X iXa0X u-a0- gXa0- pXa0- GXa0X");
        refused("away, with an act", SUPPORT, () -> x.own(0, false));
        due("the same", x.own(0, true), true);
        x.wipe(0);
        due("none behind a wipe", x.own(0, false), false);
        due("one behind a wipe", x.own(0, true), false);
        due("nothing at first", told(0), "-----");
    }

    // ---- the least client ----

    private static void sizes() {
        part("the size of the least client");
        lib(0, "class A");
        lib(1, "abstract class A");
        due("1", least(), "1 none n---A");
        lib(0, "abstract class A");
        lib(1, "abstract class A maker=k");
        due("3, with a superclass", least(), "3 A---- n---X");
        lib(0, "interface E");
        lib(1, "class E");
        due("3, with an interface", least(), "3 -E--- n---X");
        lib(0, "interface D", "interface E", "D.a0 p n 1");
        lib(1, "interface D", "interface E", "D.a0 p n 1", "E.a0 p n 1");
        due("4, with two interfaces", least(), "4 -DE-- cXa0X");
        lib(0, "abstract class A : D", "interface D", "interface E", "D.a0 p n 1");
        x.flag(0, 'D', 'o', false);
        x.copy(0, 1);
        add(1, "E.a0 p n 1");
        due("4, with both", least(), "4 AE--- cAa0X");
        lib(0, "abstract class A");
        lib(1, "abstract class A", "A.c1 o f 1");
        due("4, with a superclass and a method", least(), "4 A--c1 n---X");
        lib(0, "interface E", "E.c1 p a 0");
        lib(1, "interface E");
        due("4, with an interface and a method", least(), "4 -E-c1 iEc1X");
        // A has B and C above it, that tell two; D, under B, leaves C alone, which is not for X itself; E is under C.
        String[] all = {"abstract class A : B C", "interface B", "closed interface C", "interface D : B", "B.a0 p n 1", "C.a0 p n 2", "D.a0 p a 3"};
        lib(0, all);
        lib(1, all);
        add(0, "interface E");
        add(1, "interface E : C", "E.a0 p a 4");
        due("5, with a superclass and two interfaces", least(), "5 ADE-- cAa0X");
    }

    private static void ties() {
        part("of like sizes: the kind of act");
        String[] all = {"class A", "A.a0 p n 0", "A.b0 p s 0", "interface B", "B.c0 p n 0", "class C : B", "A#a0 p n 0", "A#b0 p s 0"};
        lib(0, all);
        lib(1, all);
        // each change shows by a kind of act that comes ahead of those by which the former ones show
        String[] changes = {"A#a0 p f 0", "A#a0 - n 0", "A#b0 p F 0", "A#b0 - n 0", "class C, C.c0 p n 0", "A.a0 - n 0", "A.b0 - n 0", "abstract class A"};
        String[] ways = {"PAa0A", "GAa0A", "pAb0-", "gAb0-", "iBc0C", "cAa0A", "sAb0-", "n---A"};
        for (int i = 0; i < 8; i++) {
            add(1, changes[i].split(", "));
            due("behind " + changes[i], least(), "1 none " + ways[i]);
        }
        part("of like sizes: then the type, the name, the shape, the object");
        String[] two = {"class A", "class B < A", "A.a1 p n 0", "A.b0 p n 0", "A.b1 p n 0", "B.a0 p n 0"};
        lib(0, two);
        lib(1, "class A", "class B < A");
        due("the type, ahead of the name", least(), "1 none cAa1A");
        add(1, "A.a1 p n 0");
        due("the name", least(), "1 none cAb0A");
        add(1, "A.b0 p n 0");
        due("the shape", least(), "1 none cAb1A");
        add(1, "A.b1 p n 0");
        due("the last type", least(), "1 none cBa0B");
        lib(1, "class A", "class B");
        add(1, "A.a1 p n 0", "A.b0 p n 0", "A.b1 p n 0", "B.a0 p n 0");
        due("the object", least(), "1 none cAa1B");
        lib(1, "class A", "abstract class B < A");
        due("what is made", least(), "1 none n---B");
    }

    private static void tiesOfOwn() {
        part("of like sizes: then X's superclass, none ahead");
        lib(0, "abstract class A", "abstract class B", "interface C", "interface D");
        lib(1, "abstract class A maker=k", "abstract class B maker=k", "interface C", "interface D");
        due("the first superclass", least(), "3 A---- n---X");
        add(1, "abstract class A");
        due("the second", least(), "3 B---- n---X");
        add(1, "abstract class A maker=k", "closed interface D");
        due("none ahead of it", least(), "3 -D--- n---X");
        add(1, "closed interface C");
        due("the first interface", least(), "3 -C--- n---X");
        part("of like sizes: then the interfaces, as a row of letters");
        lib(0, "interface A", "interface B", "interface C", "interface D", "A.a0 p n 0");
        lib(1, "interface A", "interface B", "interface C", "interface D", "A.a0 p n 0", "C.a0 p n 0", "D.a0 p n 0");
        due("AC ahead of AD", least(), "4 -AC-- cXa0X");
        add(1, "B.a0 p n 0");
        due("AB ahead of them", least(), "4 -AB-- cXa0X");
        lib(0, "interface A", "interface B", "interface E", "E.a0 p n 0");
        lib(1, "interface A", "interface B", "interface E", "A.a0 p n 0", "B.a0 p n 0", "E.a0 p n 0");
        due("AE ahead of BE", least(), "4 -AE-- cXa0X");
        lib(0, "interface A", "interface B", "A.a0 p a 0", "B.a0 p n 0");
        lib(1, "interface A", "interface B", "B.a0 p n 0");
        due("A, and a method, ahead of AB", least(), "4 -A-a0 iAa0X");
        part("of like sizes: then the method, by name and shape");
        lib(0, "abstract class A");
        lib(1, "abstract class A", "A.c0 p f 0", "A.b1 p f 0", "A.c1 p s 0");
        due("the name", least(), "4 A--b1 n---X");
        add(1, "A.b0 o f 0");
        due("the shape", least(), "4 A--b0 n---X");
    }

    // ---- releases ----

    private static void eightReleases() {
        part("one row of at most 8 releases, none at first");
        due("none", x.releases(), 0);
        refused("no number", INDEX, () -> x.number(0, 0));
        refused("no library", INDEX, () -> x.fetch(0, 0));
        for (int i = 1; i <= 8; i++) {
            x.type(0, TYPES[i % 5], i % 2 == 0 ? 'c' : 'i');
            int place = i;
            refused("not yet", INDEX, () -> x.number(place - 1, 0));
            due("release", x.release(0), i);
            due("releases", x.releases(), i);
            due("number", x.number(i - 1, 0) >= 1, true);
            refused("none behind", INDEX, () -> x.fetch(place, 0));
        }
        refused("the ninth", STATE, () -> x.release(0));
        refused("the ninth, of no types", STATE, () -> x.release(3));
        due("eight", x.releases(), 8);
        due("the last one's types", x.fetch(7, 1), 5);
        due("the first one's types", x.fetch(0, 1), 1);
        refused("none behind the eighth", INDEX, () -> x.fetch(8, 1));
        client(0, "", "n D");
        due("since the first with it", x.since(0), 7);
        client(0, "::");
        due("since the first", x.since(0), 0);
        due("sound", x.isSound(), true);
    }

    private static void numbersOfReleases() {
        part("The first one has 1, 0 and 0");
        lib(0, FIVE);
        x.release(0);
        due("the first", numbers(), "1.0.0");
        part("the same two and the third one and 1");
        lib(0);
        for (int i = 0; i < 8; i++) {
            x.release(0);
        }
        due("eight of the same", numbers(), "1.0.0 1.0.1 1.0.2 1.0.3 1.0.4 1.0.5 1.0.6 1.0.7");
        part("the second one and 1, and 0");
        for (int i = 0; i < 8; i++) {
            if (i > 0 && i < 6) {
                x.type(0, TYPES[i - 1], 'c');
            } else if (i > 5) {
                x.field(0, 'A', 'a', i - 6, 'p', 's', 0);
            }
            x.release(0);
        }
        due("eight that are more", numbers(), "1.0.0 1.1.0 1.2.0 1.3.0 1.4.0 1.5.0 1.6.0 1.7.0");
        part("the first number of the one ahead and 1, and 0, and 0");
        lib(1, "class A");
        for (int i = 0; i < 4; i++) {
            x.release(1);
            x.release(0);
        }
        due("there and back", numbers(), "1.0.0 2.0.0 2.1.0 3.0.0 3.1.0 4.0.0 4.1.0 5.0.0");
        due("sound", x.isSound(), true);
        part("all three begin again behind a higher one");
        lib(0, "class A");
        x.release(0);
        x.release(0);
        add(0, "class B");
        x.release(0);
        x.release(0);
        x.release(0);
        lib(0, "class B");
        x.release(0);
        due("begun again", numbers(), "1.0.0 1.0.1 1.1.0 1.1.1 1.1.2 2.0.0");
    }

    private static void runsByReleases() {
        part("a client that runs by a release runs by each later one with the same first number");
        lib(0, "class A");
        x.release(0);
        add(0, "A.a0 p n 1");
        x.release(0);
        add(0, "A.a0 p n 2");
        x.release(0);
        add(0, "A.a0 p a 2", "abstract class A");
        x.release(0);
        due("numbers", numbers(), "1.0.0 1.1.0 1.1.1 2.0.0");
        client(0, "", "n A", "c A a0 A");
        due("since", x.since(0), 1);
        String[] runs = {"0 M", "0 1", "0 2", "N"};
        for (int i = 0; i < 4; i++) {
            x.fetch(i, 3);
            due("by release " + i, runOf(0, 3), runs[i]);
        }
        client(0, "", "n A");
        due("a client of the first", x.since(0), 0);
        client(0, "", "n B");
        refused("of none", ELEMENT, () -> x.since(0));
    }

    private static void fittingGoesOn() {
        part("a version that fits one that fits a third fits that, and each one fits itself");
        lib(2, "class A");
        lib(1, "class A", "A.a0 p n 1");
        lib(0, "class A", "A.a0 p n 2", "class B < A");
        for (int i = 0; i < 3; i++) {
            due("itself", x.fits(i, i), true);
            int old = i;
            refused("no least client of itself", ELEMENT, () -> x.witness(old, old, 0));
        }
        due("the second the first", x.fits(2, 1), true);
        due("the third the second", x.fits(1, 0), true);
        due("the third the first", x.fits(2, 0), true);
        due("not back", x.fits(0, 1) || x.fits(1, 2) || x.fits(0, 2), false);
        due("sound", x.isSound(), true);
        part("isSound asks for the libraries that are lawful");
        for (int i = 0; i < 4; i++) {
            add(i, "class A < A");
            due("not lawful", x.check(i), 4);
            due("sound", x.isSound(), true);
        }
    }

    // ---- figures ----

    private static void wentRound() {
        part("a long that goes round");
        lib(0, FIVE);
        lib(3, FIVE);
        client(3, "A:DE:c1", "n X");
        BigInteger sum = BigInteger.valueOf(7);
        StringBuilder codes = new StringBuilder();
        for (int library = 0; library < 4; library++) {
            for (char type : TYPES) {
                if (library == 1 || library == 2) {
                    codes.append('-');
                } else {
                    codes.append(type < 'D' ? 'c' : 'i').append((char) 1).append((char) 0).append((char) 0).append("p-");
                }
            }
        }
        codes.append("\0\0\0\0\0\0\1\1");
        for (char code : codes.toString().toCharArray()) {
            sum = sum.multiply(BigInteger.valueOf(31)).add(BigInteger.valueOf(code));
        }
        due("it is beyond a long", sum.bitLength() > 64, true);
        due("what is left of it", x.checksum(), sum.longValue());
        boolean[] signs = new boolean[2];
        for (int number = 0; number < 100; number++) {
            x.method(0, 'A', 'a', 0, 'p', 's', number);
            signs[x.checksum() < 0 ? 1 : 0] = true;
        }
        due("below 0", signs[1], true);
        due("and not below 0", signs[0], true);
    }

    private static void sumOfParts() {
        part("a sum over all: what it has, and what it has not");
        lib(0, "class A", "A.a0 p n 1");
        client(0, "A:B:a0", "n A");
        long all = x.checksum();
        x.ownMethod(0, 'b', 1);
        x.ownAbove(0, '-');
        x.ownUnder(0, 'C', true);
        x.run(0, 0);
        due("not what X has, nor a run", x.checksum(), all);
        String[] others = {"open", "abstract", "final", "maker", "superclass", "interface", "method", "field", "act", "X", "release"};
        Runnable[] changes = {
            () -> x.flag(0, 'A', 'o', false), () -> x.flag(0, 'A', 'a', true), () -> x.flag(0, 'A', 'f', true),
            () -> x.maker(0, 'A', 'k'), () -> x.above(0, 'A', 'E'), () -> x.under(0, 'A', 'A', true),
            () -> x.method(0, 'A', 'a', 0, 'p', 'n', 2), () -> x.field(0, 'A', 'c', 1, 'p', 'n', 2),
            () -> x.act(3, 'n', 'A', 'a', 0, 'A'), () -> x.own(1, true), () -> x.release(1)};
        for (int i = 0; i < changes.length; i++) {
            long before = x.checksum();
            changes[i].run();
            due(others[i], x.checksum() == before, false);
        }
    }

    // ---- the last run ----

    private static void lastRun() {
        part("nothing but run() changes what a run told");
        refused("no fault yet", ELEMENT, () -> x.fault());
        refused("no answer yet", ELEMENT, () -> x.answer(0));
        lib(0, "class A", "A.a0 p n 8");
        lib(1, "class A");
        x.release(1);
        client(0, "", "c A a0 A", "n B");
        refused("no release by which it runs", ELEMENT, () -> x.since(0));
        due("fits", x.fits(0, 1), false);
        x.witness(0, 1, 1);
        due("sound", x.isSound(), true);
        refused("no fault by all that", ELEMENT, () -> x.fault());
        refused("no answer by all that", ELEMENT, () -> x.answer(0));
        x.run(0, 0);
        x.witness(0, 1, 0);
        x.since(3);
        x.release(0);
        x.fetch(0, 0);
        x.copy(1, 0);
        x.wipe(0);
        due("sound then", x.isSound(), true);
        refused("a run by a library that is not there", INDEX, () -> x.run(0, 4));
        add(2, "class A < A");
        refused("a run by one that is not lawful", SUPPORT, () -> x.run(0, 2));
        due("the fault stays", x.fault(), 'C');
        due("the answer stays", x.answer(0), 8);
        refused("one alone went through", ELEMENT, () -> x.answer(1));
        due("another run", x.run(3, 3), 0);
        due("without a fault", x.fault(), '-');
        refused("without an answer", ELEMENT, () -> x.answer(0));
    }

    public static void main(String[] args) {
        lastCall();
        noTypes();
        fiveTypes();
        newType();
        oneOfEach();
        numbersTold();
        chains();
        loops();
        noChainAgain();
        tenThings();
        orderOfThings();
        sightsOfLaws();
        twoInterfaces();
        eightActs();
        firstFault();
        ownOrNone();
        sizes();
        ties();
        tiesOfOwn();
        eightReleases();
        numbersOfReleases();
        runsByReleases();
        fittingGoesOn();
        wentRound();
        sumOfParts();
        lastRun();
        end("EdgesTest");
    }
}
