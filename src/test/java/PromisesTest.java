/** The promises of the document one by one, with answers worked out by hand from its words. */
public final class PromisesTest extends HouseTest {
    // ---- libraries ----

    private static void promise1() {
        part("1 a new object");
        for (int library = 0; library < 4; library++) {
            int l = library;
            due("check", x.check(l), -1);
            for (char type = 'A'; type <= 'E'; type++) {
                char t = type;
                refused("member of none", ELEMENT, () -> x.member(l, t, false, 'a', 0, 's'));
            }
            due("wipe", x.wipe(l), 0);
            due("client", told(l), "none");
        }
        due("releases", x.releases(), 0);
        refused("fault", ELEMENT, () -> x.fault());
        refused("answer", ELEMENT, () -> x.answer(0));
    }

    private static void promise2() {
        part("2 type");
        due("new", x.type(2, 'A', 'c'), '-');
        due("again", x.type(2, 'A', 'i'), 'c');
        due("away", x.type(2, 'A', '-'), 'i');
        due("away again", x.type(2, 'A', '-'), '-');
        due("last type", x.type(3, 'E', 'i'), '-');
        due("other library", x.type(0, 'E', 'c'), '-');
        lib(0, "closed final class B < A : C maker=k", "abstract class A", "B.a0 p n 5", "B#a0 p s 5");
        due("made anew", x.type(0, 'B', 'c'), 'c');
        due("open again", x.flag(0, 'B', 'o', true), true);
        due("not final", x.flag(0, 'B', 'f', false), false);
        due("no superclass", x.above(0, 'B', '-'), '-');
        due("no interface", x.under(0, 'B', 'C', false), false);
        due("maker for all", x.maker(0, 'B', 'p'), 'p');
        due("no method", x.member(0, 'B', false, 'a', 0, 's'), '-');
        due("no field", x.member(0, 'B', true, 'a', 0, 's'), '-');
        due("abstract", x.type(0, 'A', 'c'), 'c');
        due("not abstract", x.flag(0, 'A', 'a', false), false);
        refused("library -1", INDEX, () -> x.type(-1, 'A', 'c'));
        refused("library 4, and kind", INDEX, () -> x.type(4, 'A', 'x'));
        refused("least library", INDEX, () -> x.type(Integer.MIN_VALUE, 'A', 'x'));
        refused("type F", RANGE, () -> x.type(0, 'F', 'c'));
        refused("type @", RANGE, () -> x.type(0, '@', 'c'));
        refused("type X", RANGE, () -> x.type(0, 'X', 'c'));
        refused("type a", RANGE, () -> x.type(0, 'a', 'c'));
        refused("kind", RANGE, () -> x.type(0, 'A', 'C'));
    }

    private static void promise3() {
        part("3 flag");
        x.type(1, 'C', 'c');
        due("open at first", x.flag(1, 'C', 'o', false), true);
        due("open then", x.flag(1, 'C', 'o', false), false);
        due("abstract", x.flag(1, 'C', 'a', true), false);
        due("final", x.flag(1, 'C', 'f', true), false);
        due("abstract then", x.flag(1, 'C', 'a', false), true);
        due("final then", x.flag(1, 'C', 'f', true), true);
        refused("library ahead of all", INDEX, () -> x.flag(4, 'F', 'x', true));
        refused("type", RANGE, () -> x.flag(1, 'F', 'o', true));
        refused("what ahead of there", RANGE, () -> x.flag(1, 'D', 'x', true));
        refused("not there", ELEMENT, () -> x.flag(1, 'D', 'o', true));
    }

    private static void promise4() {
        part("4 above");
        x.type(1, 'C', 'c');
        due("none", x.above(1, 'C', 'E'), '-');
        due("one", x.above(1, 'C', 'C'), 'E');
        due("itself", x.above(1, 'C', '-'), 'C');
        due("none again", x.above(1, 'C', 'A'), '-');
        refused("library", INDEX, () -> x.above(-1, 'C', 'x'));
        refused("other", RANGE, () -> x.above(1, 'C', 'X'));
        refused("other, of none", RANGE, () -> x.above(1, 'A', 'F'));
        refused("type -", RANGE, () -> x.above(1, '-', 'A'));
        refused("not there", ELEMENT, () -> x.above(1, 'A', 'C'));
    }

    private static void promise5() {
        part("5 maker");
        x.type(0, 'A', 'i');
        due("first", x.maker(0, 'A', 'o'), 'p');
        due("o", x.maker(0, 'A', 'k'), 'o');
        due("k", x.maker(0, 'A', 'v'), 'k');
        due("v", x.maker(0, 'A', 'p'), 'v');
        refused("library", INDEX, () -> x.maker(4, 'A', '-'));
        refused("no sight", RANGE, () -> x.maker(0, 'A', '-'));
        refused("sight, of none", RANGE, () -> x.maker(0, 'B', 'x'));
        refused("not there", ELEMENT, () -> x.maker(0, 'B', 'p'));
    }

    private static void promise6() {
        part("6 under");
        x.type(0, 'A', 'c');
        due("first", x.under(0, 'A', 'E', true), false);
        due("again", x.under(0, 'A', 'E', true), true);
        due("itself", x.under(0, 'A', 'A', true), false);
        due("away", x.under(0, 'A', 'E', false), true);
        due("away again", x.under(0, 'A', 'E', false), false);
        due("the other stays", x.under(0, 'A', 'A', true), true);
        refused("library", INDEX, () -> x.under(4, 'A', 'X', true));
        refused("none is none", RANGE, () -> x.under(0, 'A', '-', true));
        refused("other, of none", RANGE, () -> x.under(0, 'B', 'X', true));
        refused("not there", ELEMENT, () -> x.under(0, 'B', 'A', true));
    }

    private static void promise7() {
        part("7 method");
        x.type(0, 'A', 'c');
        due("first", x.method(0, 'A', 'a', 0, 'p', 'n', 0), '-');
        due("then", x.method(0, 'A', 'a', 0, 'v', 's', 99), 'p');
        due("other shape", x.method(0, 'A', 'a', 1, 'o', 'f', 1), '-');
        due("other name", x.method(0, 'A', 'b', 0, 'k', 'a', 1), '-');
        due("away", x.method(0, 'A', 'a', 0, '-', 'n', 1), 'v');
        due("away again", x.method(0, 'A', 'a', 0, '-', 'n', 1), '-');
        due("stays", x.method(0, 'A', 'a', 1, 'p', 'n', 1), 'o');
        due("last", x.method(0, 'A', 'c', 1, 'p', 'n', 1), '-');
        refused("library", INDEX, () -> x.method(4, 'F', 'd', 2, 'x', 'x', -1));
        refused("type", RANGE, () -> x.method(0, 'F', 'a', 0, 'p', 'n', 1));
        refused("name", RANGE, () -> x.method(0, 'A', 'd', 0, 'p', 'n', 1));
        refused("name -", RANGE, () -> x.method(0, 'A', '-', 0, 'p', 'n', 1));
        refused("shape -1", RANGE, () -> x.method(0, 'A', 'a', -1, 'p', 'n', 1));
        refused("shape 2", RANGE, () -> x.method(0, 'A', 'a', 2, 'p', 'n', 1));
        refused("sight", RANGE, () -> x.method(0, 'A', 'a', 0, 'x', 'n', 1));
        refused("kind of a field", RANGE, () -> x.method(0, 'A', 'a', 0, 'p', 'F', 1));
        refused("kind of none", RANGE, () -> x.method(0, 'A', 'a', 0, '-', 'x', 1));
        refused("number of none", RANGE, () -> x.method(0, 'A', 'a', 0, '-', 'n', 100));
        refused("number -1", RANGE, () -> x.method(0, 'A', 'a', 0, 'p', 'n', -1));
        refused("number 100", RANGE, () -> x.method(0, 'A', 'a', 0, 'p', 'n', 100));
        refused("number, of no type", RANGE, () -> x.method(0, 'B', 'a', 0, 'p', 'n', 100));
        refused("not there", ELEMENT, () -> x.method(0, 'B', 'a', 0, '-', 'n', 1));
    }

    private static void promise8() {
        part("8 field");
        x.type(3, 'E', 'c');
        due("first", x.field(3, 'E', 'c', 1, 'p', 'F', 99), '-');
        due("then", x.field(3, 'E', 'c', 1, 'o', 'f', 0), 'p');
        due("method beside it", x.method(3, 'E', 'c', 1, 'k', 'n', 0), '-');
        due("away", x.field(3, 'E', 'c', 1, '-', 's', 0), 'o');
        due("method stays", x.member(3, 'E', false, 'c', 1, 's'), 'k');
        refused("library", INDEX, () -> x.field(-1, 'F', 'd', 2, 'x', 'x', -1));
        refused("type", RANGE, () -> x.field(3, 'X', 'a', 0, 'p', 'n', 1));
        refused("name", RANGE, () -> x.field(3, 'E', '`', 0, 'p', 'n', 1));
        refused("shape", RANGE, () -> x.field(3, 'E', 'a', 2, 'p', 'n', 1));
        refused("sight", RANGE, () -> x.field(3, 'E', 'a', 0, 's', 'n', 1));
        refused("kind of a method", RANGE, () -> x.field(3, 'E', 'a', 0, 'p', 'a', 1));
        refused("kind of none", RANGE, () -> x.field(3, 'E', 'a', 0, '-', 'a', 1));
        refused("number of none", RANGE, () -> x.field(3, 'E', 'a', 0, '-', 'n', -1));
        refused("number", RANGE, () -> x.field(3, 'E', 'a', 0, 'p', 'n', 100));
        refused("not there", ELEMENT, () -> x.field(3, 'D', 'a', 0, 'p', 'n', 1));
    }

    private static void promise9() {
        part("9 member");
        lib(0, "class A", "A.a0 o s 5", "A#a0 k F 6", "A.c1 p a 7");
        due("method's sight", x.member(0, 'A', false, 'a', 0, 's'), 'o');
        due("method's kind", x.member(0, 'A', false, 'a', 0, 'k'), 's');
        due("field's sight", x.member(0, 'A', true, 'a', 0, 's'), 'k');
        due("field's kind", x.member(0, 'A', true, 'a', 0, 'k'), 'F');
        due("last", x.member(0, 'A', false, 'c', 1, 'k'), 'a');
        due("no method", x.member(0, 'A', false, 'a', 1, 's'), '-');
        due("no field", x.member(0, 'A', true, 'b', 0, 'k'), '-');
        x.method(0, 'A', 'a', 0, '-', 'n', 5);
        due("gone", x.member(0, 'A', false, 'a', 0, 'k'), '-');
        refused("library", INDEX, () -> x.member(4, 'A', false, 'a', 0, 'x'));
        refused("what", RANGE, () -> x.member(0, 'A', false, 'a', 0, 'n'));
        refused("name", RANGE, () -> x.member(0, 'A', true, 'A', 0, 's'));
        refused("shape", RANGE, () -> x.member(0, 'A', true, 'a', 5, 's'));
        refused("what, of none", RANGE, () -> x.member(0, 'B', true, 'a', 0, 'x'));
        refused("not there", ELEMENT, () -> x.member(0, 'B', true, 'a', 0, 's'));
    }

    private static void promise10() {
        part("10 copy");
        lib(0, "interface C", "abstract closed class B : C maker=o", "B.a0 p n 5", "B#b1 k f 6");
        lib(1, "class A", "class B", "class E");
        due("types", x.copy(0, 1), 2);
        due("gone", x.type(1, 'A', '-'), '-');
        due("method", x.member(1, 'B', false, 'a', 0, 's'), 'p');
        due("field", x.member(1, 'B', true, 'b', 1, 'k'), 'f');
        due("abstract", x.flag(1, 'B', 'a', false), true);
        due("abstract in the first still", x.flag(0, 'B', 'a', true), true);
        due("closed", x.flag(1, 'B', 'o', true), false);
        due("maker", x.maker(1, 'B', 'p'), 'o');
        due("interface", x.under(1, 'B', 'C', false), true);
        due("to itself", x.copy(0, 0), 2);
        due("kept", x.maker(0, 'B', 'o'), 'o');
        due("empty", x.copy(2, 0), 0);
        refused("from", INDEX, () -> x.copy(4, 0));
        refused("to", INDEX, () -> x.copy(0, -1));
    }

    private static void promise11Types() {
        part("11 check, types");
        law(-1);
        law(-1, "class A", "class B < A", "interface C", "interface D : C", "final class E < B : D");
        law(1, "class A < B");
        law(101, "class A", "class B < C");
        law(201, "interface B", "class C < B");
        law(201, "interface B", "interface C < B");
        law(102, "final class A", "class B < A");
        law(3, "class A : B");
        law(3, "class B", "class A : B");
        law(3, "class B", "interface A : B");
        law(4, "class A < A");
        law(4, "class A < B", "class B < A");
        law(4, "interface A : A");
        law(4, "interface A : B", "interface B : C", "interface C : A");
        law(104, "class A < B", "class B < B");
        law(105, "class A", "interface B < A");
        law(105, "abstract final class B");
        law(5, "abstract final interface A");
        law(105, "class A maker=v", "class B < A");
        law(-1, "class A maker=k", "class B < A maker=v");
        due("none there", x.check(3), -1);
        refused("library -1", INDEX, () -> x.check(-1));
        refused("library 4", INDEX, () -> x.check(4));
    }

    private static void promise11Members() {
        part("11 check, members");
        law(6, "interface A", "A.a0 o n 5");
        law(6, "interface A", "A.a0 p f 5");
        law(-1, "interface A", "A.a0 p n 5", "A.a1 p a 5", "A.b0 p s 5", "A#a0 p F 5");
        law(6, "interface A", "A#a0 p s 5");
        law(6, "interface A", "A#a0 o F 5");
        law(7, "class A", "A.a0 p a 5");
        law(7, "abstract class A", "A.a0 v a 5");
        law(-1, "abstract class A", "A.a0 k a 5");
        law(-1, "abstract interface A", "A.a0 p a 5");
        law(108, "class A", "class B < A", "A.a0 p n 5", "B.a0 o n 5");
        law(108, "class A", "class B < A", "A.a0 p n 5", "B.a0 p s 5");
        law(108, "class A", "class B < A", "A.a0 p s 5", "B.a0 p n 5");
        law(108, "class A", "class B < A", "A.a0 k f 5", "B.a0 p n 5");
        law(108, "class A", "class B < A", "A.a0 k n 5", "B.a0 v n 5");
        law(-1, "class A", "class B < A", "A.a0 v f 5", "B.a0 v s 5");
        law(-1, "class A", "class B < A", "A.a0 p s 5", "B.a0 p s 5");
        law(-1, "class A", "class B < A", "A.a0 o n 5", "B.a0 p f 5");
        law(-1, "class A", "class B < A", "A.a0 p n 5", "B.a1 v n 5");
        law(208, "class A", "class B < A", "class C < B", "A.a0 p n 5", "C.a0 k n 5");
        law(9, "class A : B", "interface B", "A.a0 o n 5", "B.a0 p n 5");
        law(9, "class A : B", "interface B", "A.a0 p s 5", "B.a0 p n 5");
        law(-1, "class A : B", "interface B", "A.a0 p n 5", "B.a0 p a 5");
        law(-1, "class A : B", "interface B", "A.a0 v n 5", "B.a0 p s 5");
        law(9, "interface A : B", "interface B", "A.a0 p s 5", "B.a0 p a 5");
        law(9, "class A < C", "class C : B", "interface B", "A.a0 k s 5", "B.a0 p n 5");
    }

    private static void promise11Selecting() {
        part("11 check, selecting");
        law(10, "class A : B", "interface B", "B.a0 p a 5");
        law(-1, "abstract class A : B", "interface B", "B.a0 p a 5");
        law(110, "abstract class A", "class B < A", "A.a0 p a 5");
        law(-1, "abstract class A", "class B < A", "A.a0 p a 5", "B.a0 p n 5");
        law(10, "class A : B C", "interface B", "interface C", "B.a0 p n 5", "C.a0 p n 5");
        law(-1, "class A : B C", "interface B", "interface C", "B.a0 p n 5", "C.a0 p a 5");
        law(-1, "class A : B C", "interface B", "interface C : B", "B.a0 p n 5", "C.a0 p n 5");
        law(10, "class A : B C", "interface B", "interface C : B", "B.a0 p n 5", "C.a0 p a 5");
        law(-1, "class A : B C", "interface B", "interface C", "B.a0 p n 5", "C.a0 p n 5", "A.a0 p n 5");
        law(210, "abstract class A", "interface B", "class C < A : B", "A.a0 k a 1", "B.a0 p n 5");
        law(-1, "class A", "interface B", "class C < A : B", "A.a0 k n 1", "B.a0 p n 5");
        law(-1, "class A", "interface B", "class C < A : B", "A.a0 v s 1", "B.a0 p n 5");
        law(9, "class A : B", "interface B", "B.a0 p a 5", "A.a0 v n 5");
        law(-1, "class A : B", "interface B", "B.a0 p s 5");
        // the first type comes ahead of a lower number at a later one
        law(10, "class A : B", "interface B : C", "interface C : B", "B.a0 p n 5", "C.a0 p n 5");
        law(7, "class A", "class B < C", "A.a0 p a 5");
    }

    private static void promise12() {
        part("12 resolved");
        lib(0, "class A", "class B < A", "class C < B : D", "interface D", "interface E : D",
            "A.a0 p n 1", "B.a0 p n 2", "A.a1 v s 3", "D.b0 p a 4", "E.b0 p n 5", "C.b0 p n 6", "D.c1 p s 7");
        due("own", x.resolved(0, 'B', 'a', 0), 'B');
        due("first in the chain", x.resolved(0, 'C', 'a', 0), 'B');
        due("static and for itself", x.resolved(0, 'C', 'a', 1), 'A');
        due("an interface's own", x.resolved(0, 'E', 'b', 0), 'E');
        due("an interface's own static", x.resolved(0, 'D', 'c', 1), 'D');
        due("static is not from above", x.resolved(0, 'E', 'c', 1), '-');
        due("none", x.resolved(0, 'A', 'c', 0), '-');
        x.method(0, 'E', 'b', 0, '-', 'n', 0);
        due("from above", x.resolved(0, 'E', 'b', 0), 'D');
        lib(0, "interface A", "interface B", "abstract class C : A B", "interface D : A B", "interface E : A",
            "A.a0 p a 1", "B.a0 p n 2", "A.b0 p a 3", "B.b0 p a 4", "A.c0 p n 5", "B.c0 p n 6");
        due("the one that is not abstract", x.resolved(0, 'C', 'a', 0), 'B');
        due("the first of two abstract", x.resolved(0, 'C', 'b', 0), 'A');
        due("the first of two that are not", x.resolved(0, 'D', 'c', 0), 'A');
        due("one above alone", x.resolved(0, 'E', 'c', 0), 'A');
        lib(0, "interface A", "interface B : A", "abstract class C : A B", "A.a0 p n 1", "B.a0 p a 2");
        due("the nearer one", x.resolved(0, 'C', 'a', 0), 'B');
        refused("library", INDEX, () -> x.resolved(4, 'F', 'd', 3));
        refused("type", RANGE, () -> x.resolved(0, 'X', 'a', 0));
        refused("name", RANGE, () -> x.resolved(0, 'A', 'd', 0));
        refused("shape, of none", RANGE, () -> x.resolved(0, 'E', 'a', 2));
        refused("not there", ELEMENT, () -> x.resolved(0, 'E', 'a', 0));
        x.above(0, 'C', 'A');
        refused("not there, and not lawful", ELEMENT, () -> x.resolved(0, 'E', 'a', 0));
        refused("not lawful", SUPPORT, () -> x.resolved(0, 'A', 'a', 0));
    }

    private static void promise13() {
        part("13 selected");
        lib(0, "class A", "class B < A : E", "abstract class C : D E", "interface D", "interface E",
            "A.a0 v n 1", "E.a0 p n 2", "D.b0 p n 3", "E.b0 p n 4", "D.c0 p a 5", "A.a1 p n 6", "A.b1 k n 7", "E.b1 p n 8");
        due("past one for itself", x.selected(0, 'B', 'a', 0), 'E');
        due("one for itself alone", x.selected(0, 'A', 'a', 0), 'x');
        due("of the superclass", x.selected(0, 'B', 'a', 1), 'A');
        due("of the package, ahead of the interface", x.selected(0, 'B', 'b', 1), 'A');
        due("two", x.selected(0, 'C', 'b', 0), 'y');
        due("abstract", x.selected(0, 'C', 'c', 0), 'x');
        due("none", x.selected(0, 'A', 'c', 1), 'x');
        x.method(0, 'C', 'b', 0, 'p', 'a', 0);
        due("abstract in the class", x.selected(0, 'C', 'b', 0), 'x');
        x.method(0, 'C', 'b', 0, 'p', 'n', 0);
        due("the class's own", x.selected(0, 'C', 'b', 0), 'C');
        refused("library", INDEX, () -> x.selected(-1, 'F', 'd', 3));
        refused("name", RANGE, () -> x.selected(0, 'A', '-', 0));
        refused("interface", SUPPORT, () -> x.selected(0, 'D', 'b', 0));
        x.type(0, 'C', '-');
        refused("not there", ELEMENT, () -> x.selected(0, 'C', 'b', 0));
        x.above(0, 'A', 'A');
        refused("not lawful", SUPPORT, () -> x.selected(0, 'B', 'b', 0));
        refused("not there, and not lawful", ELEMENT, () -> x.selected(0, 'C', 'b', 0));
    }

    // ---- clients ----

    private static void promise14() {
        part("14 wipe");
        client(1, "A:BC:a", "n A", "n X");
        due("acts", x.wipe(1), 2);
        due("nothing left", told(1), "none");
        due("again", x.wipe(1), 0);
        x.own(1, true);
        due("without acts", x.wipe(1), 0);
        due("no class", told(1), "none");
        refused("client -1", INDEX, () -> x.wipe(-1));
        refused("client 4", INDEX, () -> x.wipe(4));
    }

    private static void promise15() {
        part("15 own");
        due("none", x.own(2, false), false);
        due("new", x.own(2, true), false);
        due("nothing at first", told(2), "-----");
        x.ownAbove(2, 'A');
        x.ownUnder(2, 'B', true);
        x.ownMethod(2, 'c', 1);
        due("stays", x.own(2, true), true);
        due("as it was", told(2), "AB-c1");
        due("away", x.own(2, false), true);
        due("anew", x.own(2, true), false);
        due("anew without anything", told(2), "-----");
        x.act(2, 'n', 'A', 'a', 0, 'A');
        due("the same with an act", x.own(2, true), true);
        refused("away with an act", SUPPORT, () -> x.own(2, false));
        x.act(1, 'n', 'A', 'a', 0, 'A');
        due("none with an act", x.own(1, false), false);
        refused("new with an act", SUPPORT, () -> x.own(1, true));
        refused("client", INDEX, () -> x.own(4, true));
    }

    private static void promise16() {
        part("16 ownAbove");
        x.own(0, true);
        due("first", x.ownAbove(0, 'E'), '-');
        due("then", x.ownAbove(0, '-'), 'E');
        due("none", x.ownAbove(0, 'A'), '-');
        x.act(0, 'n', 'A', 'a', 0, 'X');
        due("with an act", x.ownAbove(0, 'B'), 'A');
        refused("client", INDEX, () -> x.ownAbove(-1, 'X'));
        refused("X", RANGE, () -> x.ownAbove(0, 'X'));
        refused("out of range, without X", RANGE, () -> x.ownAbove(1, 'F'));
        refused("without X", SUPPORT, () -> x.ownAbove(1, '-'));
    }

    private static void promise17() {
        part("17 ownUnder");
        x.own(0, true);
        due("first", x.ownUnder(0, 'D', true), false);
        due("second", x.ownUnder(0, 'B', true), false);
        due("by letters", told(0), "-BD--");
        due("again", x.ownUnder(0, 'D', true), true);
        refused("third", STATE, () -> x.ownUnder(0, 'A', true));
        due("none of three", x.ownUnder(0, 'A', false), false);
        due("away", x.ownUnder(0, 'B', false), true);
        due("one left", told(0), "-D---");
        due("room again", x.ownUnder(0, 'A', true), false);
        due("both", told(0), "-AD--");
        refused("client", INDEX, () -> x.ownUnder(4, '-', true));
        refused("none is none", RANGE, () -> x.ownUnder(0, '-', true));
        refused("out of range, without X", RANGE, () -> x.ownUnder(1, 'X', true));
        refused("without X", SUPPORT, () -> x.ownUnder(1, 'A', true));
    }

    private static void promise18() {
        part("18 ownMethod");
        x.own(0, true);
        due("first", x.ownMethod(0, 'c', 1), '-');
        due("told", told(0), "---c1");
        due("other", x.ownMethod(0, 'a', 0), 'c');
        due("told then", told(0), "---a0");
        due("away", x.ownMethod(0, '-', 1), 'a');
        due("none", x.ownMethod(0, '-', 0), '-');
        refused("client", INDEX, () -> x.ownMethod(4, 'd', 2));
        refused("name", RANGE, () -> x.ownMethod(0, 'd', 0));
        refused("shape", RANGE, () -> x.ownMethod(0, 'a', 2));
        refused("shape of none", RANGE, () -> x.ownMethod(0, '-', -1));
        refused("out of range, without X", RANGE, () -> x.ownMethod(1, 'A', 0));
        refused("without X", SUPPORT, () -> x.ownMethod(1, 'a', 0));
    }

    private static void promise19() {
        part("19 act");
        due("n looks at its object alone", x.act(0, 'n', '?', '?', 9, 'E'), 1);
        due("s looks not at an object", x.act(0, 's', 'A', 'c', 1, '?'), 2);
        due("c", x.act(0, 'c', 'A', 'a', 0, 'B'), 3);
        due("i", x.act(0, 'i', 'A', 'a', 0, 'B'), 4);
        due("g", x.act(0, 'g', 'E', 'a', 0, 'X'), 5);
        due("p", x.act(0, 'p', 'A', 'a', 0, '-'), 6);
        due("G", x.act(0, 'G', 'A', 'a', 0, 'B'), 7);
        due("P", x.act(0, 'P', 'A', 'a', 0, 'B'), 8);
        refused("ninth", STATE, () -> x.act(0, 'n', 'A', 'a', 0, 'A'));
        refused("ninth out of range", RANGE, () -> x.act(0, 'n', 'A', 'a', 0, 'F'));
        due("told", told(0), "none n---E sAc1- cAa0B iAa0B gEa0- pAa0- GAa0B PAa0B");
        x.own(1, true);
        due("u looks at name and shape alone", x.act(1, 'u', '?', 'b', 1, '?'), 1);
        due("X as type and object", x.act(1, 'G', 'X', 'a', 0, 'X'), 2);
        due("X for i", x.act(1, 'i', 'X', 'a', 0, 'X'), 3);
        due("told with X", told(1), "----- u-b1- GXa0X iXa0X");
        refused("client", INDEX, () -> x.act(4, '?', '?', '?', 9, '?'));
        refused("kind", RANGE, () -> x.act(2, 'N', 'A', 'a', 0, 'A'));
        refused("no kind", RANGE, () -> x.act(2, '-', 'A', 'a', 0, 'A'));
        refused("object of n", RANGE, () -> x.act(2, 'n', 'A', 'a', 0, '-'));
        refused("type of s", RANGE, () -> x.act(2, 's', '-', 'a', 0, 'A'));
        refused("name of s", RANGE, () -> x.act(2, 's', 'A', 'd', 0, 'A'));
        refused("shape of g", RANGE, () -> x.act(2, 'g', 'A', 'a', 2, 'A'));
        refused("object of G", RANGE, () -> x.act(2, 'G', 'A', 'a', 0, 'F'));
        refused("shape of u", RANGE, () -> x.act(1, 'u', 'A', 'a', -1, 'A'));
        refused("X as a type without X", RANGE, () -> x.act(2, 's', 'X', 'a', 0, 'A'));
        refused("X as an object without X", RANGE, () -> x.act(2, 'n', 'A', 'a', 0, 'X'));
        refused("u without X", RANGE, () -> x.act(2, 'u', 'A', 'a', 0, 'A'));
    }

    private static void promise20() {
        part("20 tells");
        client(0, "C:BE:b", "P D c1 X");
        due("class", told(0), "CBEb0 PDc1X");
        due("kind", x.tells(0, 0, 'k'), 'P');
        due("shape", x.tells(0, 0, 's'), '1');
        due("second interface", x.tells(0, -1, 'j'), 'E');
        client(1, ":D:", "n A");
        due("one interface", told(1), "-D--- n---A");
        refused("client", INDEX, () -> x.tells(4, 9, '?'));
        refused("no act", ELEMENT, () -> x.tells(0, 1, '?'));
        refused("no X", ELEMENT, () -> x.tells(2, -1, '?'));
        refused("far below", ELEMENT, () -> x.tells(0, -2, 't'));
        refused("farthest", ELEMENT, () -> x.tells(0, Integer.MAX_VALUE, 't'));
        refused("kind of X", RANGE, () -> x.tells(0, -1, 'k'));
        refused("object of X", RANGE, () -> x.tells(0, -1, 'o'));
        refused("interface of an act", RANGE, () -> x.tells(0, 0, 'i'));
        refused("nothing", RANGE, () -> x.tells(0, 0, '-'));
    }

    private static void promise21Loading() {
        part("21 run, loading X");
        lib(0, "class A", "final class B", "closed class C", "interface D", "closed interface E");
        due("nothing", run(""), "");
        due("no fault", x.fault(), '-');
        due("X alone", run("::"), "");
        due("interface as superclass", run("D::"), "I");
        due("final", run("B::"), "I");
        due("closed", run("C::"), "L");
        due("interface", run(":D:"), "");
        due("class as interface", run(":A:"), "I");
        due("closed interface", run(":E:"), "L");
        due("superclass first", run("C:A:"), "L");
        due("interfaces by letters", run(":AE:"), "I");
        due("then the next", run(":DE:"), "L");
        due("ahead of the acts", run("C::", "n A"), "L");
        lib(0, "final closed class B", "closed interface D");
        due("superclass not there", run("A:D:"), "C");
        due("interface not there", run(":CD:"), "C");
        due("final ahead of closed", run("B::"), "I");
        due("class ahead of closed", run(":B:"), "I");
        lib(0, "class A", "class B < A", "A.a0 p f 1", "A.b0 o s 2", "A.c0 k f 3");
        due("final method", run("B::a"), "V");
        due("static method", run("B::b"), "V");
        due("of the package", run("B::c"), "");
        due("another method", run("A::"), "");
        x.method(0, 'A', 'a', 0, 'v', 'f', 1);
        due("for itself", run("B::a"), "");
        lib(0, "interface D", "D.a0 p s 1", "closed interface E");
        due("static of an interface", run(":D:a"), "");
        due("interface ahead of the method", run(":E:a"), "L");
    }

    private static void promise21Making() {
        part("21 run, making");
        lib(0, "class A", "closed abstract class B", "abstract class C maker=v", "class D maker=o", "interface E");
        due("made", run("", "n A"), "0");
        due("closed", run("", "n B"), "L");
        due("abstract ahead of its maker", run("", "n C"), "N");
        due("maker", run("", "n D"), "L");
        due("interface", run("", "n E"), "N");
        x.type(0, 'E', '-');
        due("not there", run("", "n E"), "C");
        due("X", run("::", "n X"), "0");
        due("X under D", run("D::", "n X", "n D"), "0 L");
        due("X under A", run("A::", "n X", "n A"), "0 0");
        x.maker(0, 'A', 'k');
        due("maker of the package", run("A::", "n X"), "L");
        due("making first", run("A::", "c B a0 X"), "L");
        due("u makes X first", run("A::", "u a0"), "L");
        due("without an object none is made", run("A::", "s A a0"), "M");
    }

    private static void promise21Static() {
        part("21 run, static");
        lib(0, "class A : D", "class B < A", "closed class C", "interface D", "D.a0 p s 1", "A.b0 o s 2", "A.b1 p s 3", "A.c0 k s 4",
            "D.c1 p n 5", "A#a0 p s 6", "A#a1 o F 7", "D#b0 p F 8", "A#b1 v s 9", "A#c0 p n 10");
        due("of an interface", run("", "s D a0"), "1");
        due("not by a class under it", run("", "s A a0"), "M");
        due("inherited", run("", "s B b1"), "3");
        due("not static of an interface above", run("", "s A c1"), "M");
        due("not static of the interface itself", run("", "s D c1"), "I");
        due("for subclasses, not under", run("", "s A b0"), "L");
        due("for subclasses, another X", run(":D:", "s A b0"), "L");
        due("for subclasses, under", run("B::", "s A b0", "s X b0", "s B b0"), "2 2 2");
        due("of the package", run("B::", "s A c0"), "L");
        due("closed", run("", "s C a0"), "L");
        due("none", run("", "s A a1"), "M");
        due("X's own", run("::a", "s X a0"), "I");
        due("get", run("", "g A a0", "g B a0", "g B b0", "g D b0"), "6 6 8 8");
        due("get for subclasses", run("", "g A a1"), "L");
        due("get under", run("A::", "g A a1", "g X a1", "g X b0"), "7 7 8");
        due("get for itself", run("", "g A b1"), "L");
        due("get one that is not static", run("", "g A c0"), "I");
        due("get none", run("", "g A c1"), "F");
        due("put", run("", "p A a0", "g A a0"), "0 6");
        due("put a final one", run("", "p D b0"), "L");
        due("put a final one unseen", run("", "p A a1"), "L");
        due("put one that is not static", run("", "p A c0"), "I");
        x.type(0, 'E', '-');
        due("not there", run("", "g E a0"), "C");
        add(0, "class C < B : E", "interface E : D");
        due("from far above", run("", "g C a0", "g C b0", "g E b0"), "6 8 8");
        add(0, "D#a0 p F 12");
        due("an interface's interface ahead of the superclass", run("", "g C a0", "g B a0"), "12 6");
        x.field(0, 'D', 'a', 0, 'p', 'F', 11);
        due("own ahead of the interface", run("", "g A a0"), "6");
        due("the interface ahead of the superclass", run("A:D:", "g X a0"), "11");
    }

    private static void promise21Objects() {
        part("21 run, objects");
        lib(0, "class A", "class B < A : D", "abstract class C : D", "interface D", "class E",
            "A.a0 p n 1", "B.a0 p n 2", "A.b0 o n 3", "A.b1 p s 4", "D.c0 p n 5", "A#a0 p n 6", "A#a1 o f 7", "D#b0 p F 8");
        due("selected by the object", run("", "c A a0 B", "c A a0 A", "c B a0 B"), "2 1 2");
        due("not under, c", run("", "c A a0 E"), "V");
        due("not under, i", run("", "i D c0 A"), "I");
        due("not under, G", run("", "G A a0 E"), "V");
        due("interface by c", run("", "c D c0 B"), "I");
        due("class by i", run("", "i A a0 B"), "I");
        due("X by i", run("A::", "i X a0 X"), "I");
        due("i", run("", "i D c0 B"), "5");
        due("c of an interface's method", run("", "c C c0 B"), "V");
        due("by an abstract class", run("C::", "c C c0 X"), "5");
        due("static by c", run("", "c A b1 A"), "I");
        due("none ahead of not under", run("", "c A c1 E"), "M");
        due("unseen ahead of static", run("", "c A b0 A"), "L");
        due("of subclasses, of an A", run("A::", "c A b0 A"), "L");
        due("of subclasses, of X", run("A::", "c A b0 X", "c X b0 X"), "3 3");
        due("X's own method", run("A::a", "c A a0 X", "c X a0 X", "c A a0 A"), "100 100 1");
        due("X's own of an interface", run(":D:c", "i D c0 X"), "100");
        due("X not under", run("::a", "c A a0 X"), "V");
        due("type X of an A", run("A::", "c X a0 A"), "V");
        due("u", run("B::a", "u a0", "u c0"), "2 5");
        due("u for subclasses", run("A::b", "u b0"), "3");
        due("u without a superclass", run("::a", "u a0"), "C");
        due("u static", run("A::", "u b1"), "I");
        due("u none", run("A::c", "u c0"), "M");
        due("get", run("", "G A a0 A", "G B a0 B"), "6 6");
        due("get for subclasses", run("A::", "G A a1 X", "G A a1 A"), "7 L");
        due("put", run("", "P A a0 B", "G A a0 B"), "0 6");
        due("put a final one", run("A::", "P A a1 X"), "L");
        due("get a static one", run("", "G D b0 B"), "I");
        due("put a final one ahead of not under", run("A::", "P X a1 X"), "L");
        due("no field", run("", "G A c1 E"), "F");
    }

    private static void promise21Selecting() {
        part("21 run, selecting");
        lib(0, "interface A", "interface B", "abstract class C", "class D", "class E < D",
            "A.a0 p n 1", "B.a0 p n 2", "A.b0 p a 3", "C.c0 p a 4", "D.b0 k n 5");
        due("two, by an interface", run(":AB:", "i A a0 X"), "I");
        due("two, by X", run(":AB:", "c X a0 X"), "I");
        due("X's own for both", run(":AB:a", "i A a0 X", "i B a0 X"), "100 100");
        due("abstract by an interface", run(":A:", "i A b0 X"), "A");
        due("abstract by a class", run("C::", "c C c0 X", "n X"), "A");
        due("abstract by u", run("C::c", "c C c0 X", "u c0"), "100 A");
        due("of the package, by an interface", run("D:A:", "i A b0 X"), "L");
        due("of the package, by X", run("D:A:", "c X b0 X"), "L");
        due("X's own beside one of the package", run("D:A:b", "i A b0 X", "c X b0 X", "c D b0 X"), "100 100 L");
        lib(0, "class A", "class B < A : C", "interface C", "A.a0 k n 1", "C.a0 p n 2");
        due("of the package, in a library's class", run("", "i C a0 B"), "L");
        x.method(0, 'A', 'a', 0, 'v', 'n', 1);
        due("for itself, in a library's class", run("", "i C a0 B"), "2");
        due("for itself resolved", run("", "c B a0 B"), "L");
    }

    private static void promise21() {
        part("21 run");
        lib(0, "class A", "A.a0 p n 1");
        lib(1);
        lib(2, "class A < B");
        client(0, "", "c A a0 A", "n A", "n B", "n A");
        due("up to the first fault", x.run(0, 0), 2);
        due("its fault", x.fault(), 'C');
        due("at once", x.run(0, 1), 0);
        due("eight", run("", "n A", "n A", "n A", "n A", "n A", "n A", "n A", "c A a0 A"), "0 0 0 0 0 0 0 1");
        refused("client", INDEX, () -> x.run(4, 2));
        refused("library", INDEX, () -> x.run(0, -1));
        refused("not lawful", SUPPORT, () -> x.run(0, 2));
    }

    private static void promises22And23() {
        part("22 fault, 23 answer");
        lib(0, "class A", "A.a0 p n 42");
        lib(1);
        lib(2, "class A < A");
        client(0, "", "n A", "c A a0 A", "n B");
        refused("fault ahead", ELEMENT, () -> x.fault());
        refused("answer ahead", ELEMENT, () -> x.answer(0));
        refused("no run", SUPPORT, () -> x.run(0, 2));
        refused("fault still", ELEMENT, () -> x.fault());
        x.run(0, 0);
        due("fault", x.fault(), 'C');
        due("first", x.answer(0), 0);
        due("second", x.answer(1), 42);
        refused("third", ELEMENT, () -> x.answer(2));
        refused("below", ELEMENT, () -> x.answer(-1));
        refused("far", ELEMENT, () -> x.answer(Integer.MAX_VALUE));
        x.wipe(0);
        x.type(0, 'A', '-');
        x.fits(0, 1);
        x.release(0);
        x.since(1);
        x.isSound();
        refused("a run that throws", INDEX, () -> x.run(0, 4));
        due("fault stays", x.fault(), 'C');
        due("answer stays", x.answer(1), 42);
        x.run(1, 0);
        due("no fault", x.fault(), '-');
        refused("no answer", ELEMENT, () -> x.answer(0));
    }

    // ---- looking ----

    private static void promise24() {
        part("24 fits");
        due("empty", x.fits(0, 1), true);
        lib(0, "class A", "interface B", "A.a0 p n 1");
        due("itself", x.fits(0, 0), true);
        due("more", x.fits(1, 0), true);
        due("less", x.fits(0, 1), false);
        x.copy(0, 1);
        due("a copy", x.fits(0, 1), true);
        add(1, "A.a0 p n 2", "A.b0 p n 3", "A#a0 p n 4", "class C < A", "interface D : B");
        due("other numbers and more", x.fits(0, 1), true);
        due("not back", x.fits(1, 0), false);
        add(1, "A.b0 p f 3");
        due("a new final method, that bars an X of its own", x.fits(0, 1), false);
        lib(2, "class A < B");
        refused("old", INDEX, () -> x.fits(-1, 2));
        refused("new", INDEX, () -> x.fits(2, 4));
        refused("old not lawful", SUPPORT, () -> x.fits(2, 0));
        refused("new not lawful", SUPPORT, () -> x.fits(0, 2));
    }

    private static void promise25Small() {
        part("25 witness, of size 1");
        lib(0, "class A", "class B < A", "A.a0 p n 1", "A#a0 p n 2", "A.b0 p s 3", "A#b0 p s 4");
        lib(1, "class A", "class B < A", "A.a0 p n 1", "A#a0 p n 2", "A.b0 p s 3", "A#b0 p s 4");
        due("the same", least(), "fits");
        add(1, "abstract class B < A");
        due("n", least(), "1 none n---B");
        add(1, "class B < A", "A.b0 o s 3");
        due("s", least(), "1 none sAb0-");
        add(1, "A.b0 p s 3", "A.a0 p s 3");
        due("c", least(), "1 none cAa0A");
        add(1, "A.a0 p n 3", "A#b0 p F 3");
        due("p", least(), "1 none pAb0-");
        add(1, "A#b0 o F 3");
        due("g", least(), "1 none gAb0-");
        add(1, "A#b0 p s 3", "A#a0 p f 3");
        due("P", least(), "1 none PAa0A");
        add(1, "A#a0 - n 3");
        due("G", least(), "1 none GAa0A");
        add(1, "A#a0 p n 3", "class B");
        due("not under", least(), "1 none sBb0-");
        lib(0, "interface A", "class B : A", "A.a0 p n 1");
        lib(1, "interface A", "class B : A", "A.a0 p s 1");
        due("i", least(), "1 none cBa0B");
        lib(0, "class A : B", "interface B", "B.a0 p n 1");
        lib(1, "class A", "interface B", "B.a0 p n 1", "A.a0 p n 1");
        due("i where c goes", least(), "1 none iBa0A");
        lib(0, "class A", "class B", "A#a0 p s 1", "B#b1 p s 2", "B#c0 p n 3");
        lib(1, "class A", "class B", "A#a0 p F 1", "B#b1 p s 2", "B#c0 p n 3");
        due("p beside another", least(), "1 none pAa0-");
    }

    private static void promise25Own() {
        part("25 witness, with X");
        lib(0, "class A");
        lib(1, "final class A");
        due("final", least(), "3 A---- n---A");
        lib(0, "abstract class A");
        lib(1, "abstract final class A");
        due("final and abstract", "" + x.check(1), "5");
        lib(1, "abstract class A maker=k");
        due("maker", least(), "3 A---- n---X");
        lib(0, "interface B");
        lib(1, "closed interface B");
        due("closed", least(), "3 -B--- n---X");
        lib(0, "interface A", "interface B", "A.a0 p n 3");
        lib(1, "interface A", "interface B", "A.a0 p n 3", "B.a0 p n 4");
        due("two", least(), "4 -AB-- cXa0X");
        add(1, "B.a0 p a 4");
        due("one that is not abstract", least(), "fits");
        add(0, "B#a0 p F 4");
        add(1, "B#a0 p F 4", "A#a0 p F 4");
        due("fields of both", least(), "fits");
    }

    private static void promise25Above() {
        part("25 witness, with something above X");
        lib(0, "class A", "A.a0 o n 1");
        lib(1, "class A", "A.a0 o f 1");
        due("final method", least(), "4 A--a0 n---A");
        lib(1, "class A", "A.a0 k n 1");
        due("method of the package", least(), "3 A---- cAa0X");
        lib(1, "class A", "A.a0 p n 1");
        due("method for all", least(), "fits");
        lib(0, "abstract class A", "A.a0 o n 1");
        lib(1, "abstract class A", "A.a0 o a 1");
        due("abstract now", least(), "3 A---- cAa0X");
        lib(0, "class A", "A#a0 o s 1");
        lib(1, "class A", "A#a0 o F 1");
        due("field for subclasses", least(), "3 A---- pAa0-");
        lib(0, "class A", "class B < A", "A.a0 o s 1");
        lib(1, "class A", "class B < A", "A.a0 o s 1", "B.a0 o s 1");
        due("nearer, in a class that X is not under", least(), "3 A---- sBa0-");
        add(1, "B.a0 p s 1");
        due("nearer for all", least(), "fits");
        lib(0, "interface A", "A.a0 p a 1");
        lib(1, "interface A");
        due("X's own, by an interface", least(), "4 -A-a0 iAa0X");
        lib(0, "abstract class A", "A.a0 p a 1");
        lib(1, "abstract class A");
        due("X's own, by a class", least(), "4 A--a0 cAa0X");
    }

    private static void promise25Fields() {
        part("25 witness, fields by X");
        lib(0, "abstract class A", "interface B : C", "interface C", "B.b1 p s 1", "A#c0 o f 2", "A#c1 o F 3", "C#b0 p F 4");
        lib(1, "abstract class A", "interface B : C", "interface C", "B.b1 p s 1", "A#c0 o f 2", "A#c1 k F 3", "C#b0 p F 4");
        due("static final", least(), "3 A---- gAc1-");
        add(1, "A#c1 p F 3", "A#c0 k f 2");
        due("final", least(), "3 A---- GAc0X");
        add(1, "A#c0 p f 2", "interface C", "C#b1 p F 4");
        due("of an interface above", least(), "1 none gBb0-");
        add(0, "C#b1 p F 4", "C#b0 - F 0", "A#b1 o s 5");
        add(1, "A#b1 o s 5");
        due("beside it", least(), "fits");
        add(1, "A#b1 o n 5");
        due("static by a class", least(), "3 A---- gAb1-");
    }

    private static void promise25() {
        part("25 witness");
        lib(0, "class A", "A.a0 p n 1");
        lib(1, "class A");
        client(2, "A:B:a", "n A", "n A");
        due("size", x.witness(0, 1, 2), 1);
        due("instead of what it was", told(2), "none cAa0A");
        due("other way, which fits", x.fits(1, 0), true);
        refused("fits", ELEMENT, () -> x.witness(1, 0, 2));
        due("kept", told(2), "none cAa0A");
        lib(2, "class A < A");
        refused("old", INDEX, () -> x.witness(4, 2, 0));
        refused("new", INDEX, () -> x.witness(2, -1, 0));
        refused("client", INDEX, () -> x.witness(2, 2, 4));
        refused("old not lawful", SUPPORT, () -> x.witness(2, 0, 0));
        refused("new not lawful", SUPPORT, () -> x.witness(0, 2, 0));
    }

    // ---- releases ----

    private static void promises26To28() {
        part("26 release, 27 releases, 28 number");
        due("none", x.releases(), 0);
        refused("no first", INDEX, () -> x.number(0, 0));
        lib(0, "class A");
        due("first", x.release(0), 1);
        add(0, "A.a0 p n 1");
        due("more", x.release(0), 2);
        add(0, "A.a0 p n 2");
        due("the same but for a number", x.release(0), 3);
        add(0, "A.b0 p n 2");
        due("more again", x.release(0), 4);
        add(0, "A.a0 - n 2");
        due("less", x.release(0), 5);
        due("again", x.release(0), 6);
        due("numbers", numbers(), "1.0.0 1.1.0 1.1.1 1.2.0 2.0.0 2.0.1");
        lib(1, "class A < A");
        refused("not lawful", SUPPORT, () -> x.release(1));
        due("seventh", x.release(2), 7);
        due("eighth", x.release(0), 8);
        due("all numbers", numbers(), "1.0.0 1.1.0 1.1.1 1.2.0 2.0.0 2.0.1 3.0.0 3.1.0");
        refused("ninth", STATE, () -> x.release(0));
        refused("ninth not lawful", SUPPORT, () -> x.release(1));
        refused("library", INDEX, () -> x.release(4));
        due("count", x.releases(), 8);
        refused("release -1", INDEX, () -> x.number(-1, 0));
        refused("release 8", INDEX, () -> x.number(8, 0));
        refused("which -1", INDEX, () -> x.number(0, -1));
        refused("which 3", INDEX, () -> x.number(0, 3));
    }

    private static void promise29() {
        part("29 fetch");
        lib(0, "class A", "interface B", "A.a0 p n 1");
        x.release(0);
        lib(0, "class A");
        x.release(0);
        due("types", x.fetch(0, 3), 2);
        due("method", x.member(3, 'A', false, 'a', 0, 's'), 'p');
        due("the next", x.fetch(1, 3), 1);
        due("no method", x.member(3, 'A', false, 'a', 0, 's'), '-');
        x.type(3, 'A', '-');
        due("the release stays", x.fetch(1, 2), 1);
        due("numbers stay", numbers(), "1.0.0 2.0.0");
        refused("release 2", INDEX, () -> x.fetch(2, 0));
        refused("release -1", INDEX, () -> x.fetch(-1, 0));
        refused("to", INDEX, () -> x.fetch(0, 4));
    }

    private static void promise30() {
        part("30 since");
        client(0, "", "n A", "c A a0 A");
        client(1, ":B:");
        refused("no release", ELEMENT, () -> x.since(2));
        x.release(0);
        lib(0, "class A");
        x.release(0);
        add(0, "A.a0 p n 1", "interface B");
        x.release(0);
        x.release(0);
        due("without anything", x.since(2), 0);
        due("both acts", x.since(0), 2);
        due("X alone", x.since(1), 2);
        x.run(0, 1);
        due("fault of a run", x.fault(), 'C');
        x.since(0);
        due("it stays", x.fault(), 'C');
        client(3, "", "n C");
        refused("none", ELEMENT, () -> x.since(3));
        refused("client", INDEX, () -> x.since(4));
    }

    // ---- figures ----

    private static void promises31And32() {
        part("31 openShare, 32 meanMembers");
        refused("no share", DIVISOR, () -> x.openShare(0));
        refused("no mean", DIVISOR, () -> x.meanMembers(0));
        lib(0, "class A", "closed class B", "closed interface E", "A.a0 p n 1", "A#a0 p n 1", "B.c1 p a 0", "E#b0 p F 4");
        due("share", x.openShare(0), 1.0f / 3.0f);
        due("mean", x.meanMembers(0), 4.0 / 3.0);
        lib(1, "class C");
        due("all open", x.openShare(1), 1.0f);
        due("no members", x.meanMembers(1), 0.0);
        x.flag(1, 'C', 'o', false);
        due("none open", x.openShare(1), 0.0f);
        refused("library", INDEX, () -> x.openShare(4));
        refused("library of the mean", INDEX, () -> x.meanMembers(-1));
    }

    private static void promise33() {
        part("33 checksum");
        due("new", x.checksum(), sum(join(times(20, '-'), times(8, 0))));
        lib(1, "abstract closed class B < A : E C maker=k", "B.b0 o s 9", "B.a1 v n 3", "B#a0 p F 99");
        client(2, "A::", "n A", "n X", "n X");
        int[] ahead = times(6, '-');
        int[] type = {'c', 0, 1, 0, 'k', 'A', 'C', 'E', 'v', 'n', 3, 'o', 's', 9, 'p', 'F', 99};
        int[] behind = times(13, '-');
        int[] clients = {0, 0, 0, 0, 3, 1, 0, 0};
        due("a type and a client", x.checksum(), sum(join(ahead, type, behind, clients)));
        x.release(0);
        x.release(0);
        due("releases", x.checksum(), sum(join(ahead, type, behind, clients, new int[] {1, 0, 0, 1, 0, 1})));
        x.run(2, 0);
        x.fits(0, 2);
        due("a run changes nothing", x.checksum(), sum(join(ahead, type, behind, clients, new int[] {1, 0, 0, 1, 0, 1})));
    }

    private static void promise34() {
        part("34 isSound");
        due("new", x.isSound(), true);
        lib(0, "class A", "interface B", "A.a0 p n 1", "B.a0 p n 2");
        lib(1, "class A", "interface B", "A.a0 p n 1");
        lib(2, "class A");
        client(0, "A::a", "n X", "n A");
        long before = x.checksum();
        due("three that fit in a row", x.isSound(), true);
        due("nothing changed", x.checksum(), before);
        x.release(0);
        x.release(1);
        x.release(2);
        x.release(0);
        x.above(3, x.type(3, 'A', 'c') == '-' ? 'A' : 'B', 'A');
        due("beside one that is not lawful", x.isSound(), true);
        due("numbers", numbers(), "1.0.0 2.0.0 3.0.0 3.1.0");
    }

    public static void main(String[] args) {
        promise1();
        promise2();
        promise3();
        promise4();
        promise5();
        promise6();
        promise7();
        promise8();
        promise9();
        promise10();
        promise11Types();
        promise11Members();
        promise11Selecting();
        promise12();
        promise13();
        promise14();
        promise15();
        promise16();
        promise17();
        promise18();
        promise19();
        promise20();
        promise21Loading();
        promise21Making();
        promise21Static();
        promise21Objects();
        promise21Selecting();
        promise21();
        promises22And23();
        promise24();
        promise25Small();
        promise25Own();
        promise25Above();
        promise25Fields();
        promise25();
        promises26To28();
        promise29();
        promise30();
        promises31And32();
        promise33();
        promise34();
        end("PromisesTest");
    }
}
