import java.lang.reflect.InvocationTargetException;
import java.lang.reflect.Method;
import java.util.ArrayList;
import java.util.List;

/**
 * The rows of arguments of each promise: every value in its range and many beyond it; of each two things that are
 * wrong at once, and of all of them, that the one documented first is thrown; and that a call that throws changes
 * nothing of all that can be seen afterwards.
 */
public final class RangeTest extends HouseTest {

    /** A row of arguments: numbers from the least to the greatest, or letters, or anything; and what else is thrown. */
    record Row(boolean isFree, String letters, int least, int greatest, Class<?> due) {
    }

    /** Something made ahead of a call that is otherwise good, and what the call throws then. */
    record Ahead(Class<?> due, Runnable made) {
    }

    record Promise(String name, List<Class<?>> order, Object[] good, List<Row> rows, List<Ahead> aheads) {
    }

    /** One thing that is wrong: an argument's value, or what was made ahead. */
    record Wrong(int place, Object value, Runnable made, Class<?> due) {
    }

    private static final List<Promise> PROMISES = new ArrayList<>();
    private static final List<Class<?>> ORDER_TYPE = List.of(INDEX, RANGE, ELEMENT, SUPPORT);

    // ---- the rows that the document tells ----

    private static Row numbers(int least, int greatest, Class<?> due) {
        return new Row(false, null, least, greatest, due);
    }

    private static Row four() {
        return numbers(0, 3, INDEX);
    }

    private static Row shapes() {
        return numbers(0, 1, RANGE);
    }

    private static Row letters(String letters) {
        return new Row(false, letters, 0, 0, RANGE);
    }

    private static Row types() {
        return letters("ABCDE");
    }

    private static Row names() {
        return letters("abc");
    }

    private static Row free() {
        return new Row(true, null, 0, 0, null);
    }

    private static Ahead ahead(Class<?> due, Runnable made) {
        return new Ahead(due, made);
    }

    private static Object[] good(Object... all) {
        return all;
    }

    private static void promise(String name, List<Class<?>> order, Object[] good, List<Row> rows, Ahead... aheads) {
        PROMISES.add(new Promise(name, order, good, rows, List.of(aheads)));
    }

    private static void libraryPromises() {
        Ahead away = ahead(ELEMENT, () -> x.type(0, 'A', '-'));
        List<Class<?>> order = List.of(INDEX, RANGE, ELEMENT);
        promise("type", List.of(INDEX, RANGE), good(0, 'A', 'c'), List.of(four(), types(), letters("ci-")));
        promise("flag", order, good(0, 'A', 'o', true), List.of(four(), types(), letters("oaf"), free()), away);
        promise("above", order, good(0, 'A', 'A'), List.of(four(), types(), letters("ABCDE-")), away);
        promise("maker", order, good(0, 'A', 'p'), List.of(four(), types(), letters("pokv")), away);
        promise("under", order, good(0, 'A', 'A', true), List.of(four(), types(), types(), free()), away);
        for (char sight : "p-".toCharArray()) {
            promise("method", order, good(0, 'A', 'a', 0, sight, 'n', 5),
                List.of(four(), types(), names(), shapes(), letters("pokv-"), letters("nsaf"), numbers(0, 99, RANGE)), away);
            promise("field", order, good(0, 'A', 'a', 0, sight, 'n', 5),
                List.of(four(), types(), names(), shapes(), letters("pokv-"), letters("nsfF"), numbers(0, 99, RANGE)), away);
        }
        promise("member", order, good(0, 'A', false, 'a', 0, 's'), List.of(four(), types(), free(), names(), shapes(), letters("sk")), away);
        promise("copy", List.of(INDEX), good(0, 1), List.of(four(), four()));
        promise("check", List.of(INDEX), good(0), List.of(four()));
        Ahead unlawful = ahead(SUPPORT, () -> x.above(0, 'B', 'B'));
        List<Row> rows = List.of(four(), types(), names(), shapes());
        promise("resolved", ORDER_TYPE, good(0, 'A', 'a', 0), rows, unlawful, away);
        promise("selected", ORDER_TYPE, good(0, 'A', 'a', 0), rows, unlawful, ahead(SUPPORT, () -> x.type(0, 'A', 'i')), away);
        promise("openShare", List.of(INDEX, DIVISOR), good(0), List.of(four()), ahead(DIVISOR, () -> lib(0)));
        promise("meanMembers", List.of(INDEX, DIVISOR), good(0), List.of(four()), ahead(DIVISOR, () -> lib(0)));
    }

    private static void clientPromises() {
        Ahead wiped = ahead(SUPPORT, () -> x.wipe(2));
        promise("wipe", List.of(INDEX), good(0), List.of(four()));
        promise("own", List.of(INDEX, SUPPORT), good(1, true), List.of(four(), free()), ahead(SUPPORT, () -> acts(1, 1)));
        promise("own", List.of(INDEX, SUPPORT), good(2, false), List.of(four(), free()), ahead(SUPPORT, () -> acts(2, 1)));
        promise("ownAbove", List.of(INDEX, RANGE, SUPPORT), good(2, 'A'), List.of(four(), letters("ABCDE-")), wiped);
        promise("ownUnder", List.of(INDEX, RANGE, SUPPORT, STATE), good(2, 'E', true), List.of(four(), types(), free()),
            ahead(STATE, () -> x.ownUnder(2, 'C', true)), wiped);
        promise("ownMethod", List.of(INDEX, RANGE, SUPPORT), good(2, 'a', 0), List.of(four(), letters("abc-"), shapes()), wiped);
        promise("ownMethod", List.of(INDEX, RANGE, SUPPORT), good(2, '-', 1), List.of(four(), letters("abc-"), shapes()), wiped);
        actPromises(2, "ABCDEX", "nsciugpGP");
        actPromises(1, "ABCDE", "nscigpGP");
        List<Class<?>> order = List.of(INDEX, ELEMENT, RANGE);
        Ahead none = ahead(ELEMENT, () -> x.wipe(0));
        promise("tells", order, good(0, -1, 't'), List.of(four(), numbers(-1, 1, ELEMENT), letters("tijns")), none);
        promise("tells", order, good(0, 1, 't'), List.of(four(), numbers(-1, 1, ELEMENT), letters("ktnso")), none);
        promise("run", List.of(INDEX, SUPPORT), good(0, 0), List.of(four(), four()), ahead(SUPPORT, () -> x.above(0, 'A', 'A')));
        promise("answer", List.of(ELEMENT), good(0), List.of(numbers(0, 1, ELEMENT)), ahead(ELEMENT, () -> x.run(2, 0)));
    }

    private static void acts(int client, int count) {
        for (int i = 0; i < count; i++) {
            x.act(client, 'n', 'A', 'a', 0, 'A');
        }
    }

    private static void actPromises(int client, String types, String kinds) {
        List<Class<?>> order = List.of(INDEX, RANGE, STATE);
        for (char kind : kinds.toCharArray()) {
            boolean hasType = "scigpGP".indexOf(kind) >= 0;
            boolean hasMember = kind != 'n';
            boolean hasObject = "nciGP".indexOf(kind) >= 0;
            // What the kind has not is not looked at, so that the kind's own row is told by the rows behind it.
            promise("act", order, good(client, kind, hasType ? 'A' : '?', hasMember ? 'a' : '?', hasMember ? 0 : -7, hasObject ? 'A' : '?'),
                List.of(four(), free(), hasType ? letters(types) : free(), hasMember ? names() : free(), hasMember ? shapes() : free(),
                    hasObject ? letters(types) : free()),
                ahead(STATE, () -> acts(client, 8)));
        }
        promise("act", order, good(client, 'c', 'A', 'a', 0, 'A'),
            List.of(four(), letters(kinds), letters(types), names(), shapes(), letters(types)), ahead(STATE, () -> acts(client, 8)));
    }

    private static void otherPromises() {
        Ahead oldUnlawful = ahead(SUPPORT, () -> x.above(2, 'A', 'A'));
        Ahead newUnlawful = ahead(SUPPORT, () -> x.above(0, 'A', 'A'));
        promise("fits", List.of(INDEX, SUPPORT), good(2, 0), List.of(four(), four()), oldUnlawful, newUnlawful);
        promise("witness", List.of(INDEX, SUPPORT, ELEMENT), good(2, 0, 1), List.of(four(), four(), four()),
            ahead(ELEMENT, () -> x.copy(0, 2)), oldUnlawful, newUnlawful);
        promise("release", List.of(INDEX, SUPPORT, STATE), good(0), List.of(four()),
            ahead(STATE, () -> {
                while (x.releases() < 8) {
                    x.release(2);
                }
            }), newUnlawful);
        promise("number", List.of(INDEX), good(0, 0), List.of(numbers(0, 2, INDEX), numbers(0, 2, INDEX)));
        promise("fetch", List.of(INDEX), good(0, 0), List.of(numbers(0, 2, INDEX), four()));
        promise("since", List.of(INDEX, ELEMENT), good(0), List.of(four()), ahead(ELEMENT, () -> x.act(0, 's', 'A', 'c', 1, '?')));
    }

    // ---- a house where all calls go through, and all that can be seen of it ----

    private static void ready() {
        x = new House();
        add(0, "class A", "class B", "class C", "class D", "class E", "A.a0 p n 5", "A#a0 p s 6");
        x.copy(0, 1);
        x.copy(0, 2);
        x.copy(0, 3);
        add(2, "A.b0 p n 7");
        x.release(0);
        x.release(2);
        x.release(0);
        client(0, "A::b", "n A", "c A a0 X");
        client(2, "A:B:c1");
        client(3, "", "n A");
        x.run(0, 0);
    }

    private static String seen() {
        StringBuilder all = new StringBuilder();
        all.append(x.checksum()).append(' ').append(numbers());
        for (int i = 0; i < 4; i++) {
            int client = i;
            all.append(" | ").append(told(i)).append(' ').append(outcome(() -> x.since(client)));
        }
        all.append(" | ").append(outcome(() -> x.fault()));
        for (int i = 0; i < 9; i++) {
            int place = i;
            all.append(' ').append(outcome(() -> x.answer(place)));
        }
        for (int i = 0; i < 4; i++) {
            all.append(' ').append(x.check(i));
        }
        return all.toString();
    }

    /** What is seen, and then, by changing a library, what the releases are. */
    private static String seenToTheEnd() {
        StringBuilder all = new StringBuilder(seen());
        for (int i = 0; i < x.releases(); i++) {
            x.fetch(i, 3);
            all.append(' ').append(x.checksum());
        }
        return all.toString();
    }

    // ---- calling by name ----

    private static final Method[] METHODS = House.class.getDeclaredMethods();

    private static Object call(String name, Object[] arguments) {
        for (Method method : METHODS) {
            if (method.getName().equals(name)) {
                try {
                    return method.invoke(x, arguments);
                } catch (InvocationTargetException one) {
                    return one.getCause().getClass();
                } catch (IllegalAccessException one) {
                    throw new AssertionError(one);
                }
            }
        }
        throw new AssertionError(name);
    }

    private static String told(String name, Object[] arguments) {
        StringBuilder all = new StringBuilder(name);
        for (Object one : arguments) {
            all.append(' ').append(one instanceof Character ? "'" + one + "'(" + (int) (Character) one + ")" : one);
        }
        return all.toString();
    }

    private static Object[] with(Object[] arguments, int place, Object value) {
        Object[] all = arguments.clone();
        all[place] = value;
        return all;
    }

    // ---- each row alone ----

    private static List<Object> valuesIn(Row row) {
        List<Object> all = new ArrayList<>();
        if (row.letters != null) {
            for (char one : row.letters.toCharArray()) {
                all.add(one);
            }
        } else {
            for (int one = row.least; one <= row.greatest; one++) {
                all.add(one);
            }
        }
        return all;
    }

    private static List<Object> valuesBeyond(Row row) {
        List<Object> all = new ArrayList<>();
        if (row.letters != null) {
            for (int one = 0; one <= 0x10000; one += one < 0x180 ? 1 : 0x7f) {
                if (one > 0xffff || row.letters.indexOf(one) < 0) {
                    all.add((char) Math.min(one, 0xffff));
                }
            }
            return all;
        }
        for (int far : new int[] {1, 2, 32, 256, 65536, 1 << 30}) {
            all.add(row.least - far);
            all.add(row.greatest + far);
        }
        all.add(Integer.MIN_VALUE);
        all.add(Integer.MIN_VALUE + 1);
        all.add(Integer.MAX_VALUE);
        return all;
    }

    private static void tryRow(Promise promise, int place) {
        Row row = promise.rows.get(place);
        for (Object value : valuesIn(row)) {
            ready();
            Object[] arguments = with(promise.good, place, value);
            Object got = call(promise.name, arguments);
            due(told(promise.name, arguments) + ", in its range, throws " + row.due.getSimpleName(), got == row.due, false);
        }
        ready();
        String before = seen();
        for (Object value : valuesBeyond(row)) {
            if (x.calls() > 380) {
                due("what stays behind " + promise.name, seen(), before);
                ready();
            }
            Object[] arguments = with(promise.good, place, value);
            due(told(promise.name, arguments), call(promise.name, arguments), row.due);
        }
        due("what stays behind " + promise.name, seen(), before);
    }

    // ---- several things at once ----

    private static List<Wrong> wrongs(Promise promise) {
        List<Wrong> all = new ArrayList<>();
        for (int place = 0; place < promise.rows.size(); place++) {
            Row row = promise.rows.get(place);
            if (row.isFree) {
                continue;
            }
            if (row.letters == null) {
                all.add(new Wrong(place, row.least - 1, null, row.due));
                all.add(new Wrong(place, row.greatest + 1, null, row.due));
            } else {
                all.add(new Wrong(place, '?', null, row.due));
            }
        }
        for (Ahead one : promise.aheads) {
            all.add(new Wrong(-1, null, one.made, one.due));
        }
        return all;
    }

    private static void tryWrongs(Promise promise, List<Wrong> wrongs) {
        Object[] arguments = promise.good;
        Class<?> first = wrongs.get(0).due;
        for (Wrong one : wrongs) {
            arguments = one.place < 0 ? arguments : with(arguments, one.place, one.value);
            first = promise.order.indexOf(one.due) < promise.order.indexOf(first) ? one.due : first;
        }
        ready();
        for (Wrong one : wrongs) {
            if (one.made != null) {
                one.made.run();
            }
        }
        String before = seenToTheEnd();
        ready();
        for (Wrong one : wrongs) {
            if (one.made != null) {
                one.made.run();
            }
        }
        due(told(promise.name, arguments) + " with " + wrongs.size() + " wrong", call(promise.name, arguments), first);
        due("what stays behind " + told(promise.name, arguments), seenToTheEnd(), before);
    }

    private static void tryPromise(Promise promise) {
        part(promise.name);
        ready();
        due(told(promise.name, promise.good) + " throws", call(promise.name, promise.good) instanceof Class, false);
        for (int place = 0; place < promise.rows.size(); place++) {
            if (!promise.rows.get(place).isFree) {
                tryRow(promise, place);
            }
        }
        List<Wrong> wrongs = wrongs(promise);
        for (int i = 0; i < wrongs.size(); i++) {
            tryWrongs(promise, List.of(wrongs.get(i)));
            for (int j = i + 1; j < wrongs.size(); j++) {
                if (wrongs.get(i).place < 0 || wrongs.get(i).place != wrongs.get(j).place) {
                    tryWrongs(promise, List.of(wrongs.get(i), wrongs.get(j)));
                }
            }
        }
        tryWrongs(promise, wrongs);
    }

    private static void tryFresh() {
        part("a new object");
        refused("fault", ELEMENT, () -> x.fault());
        for (int place : new int[] {Integer.MIN_VALUE, -1, 0, 1, 7, 8, Integer.MAX_VALUE}) {
            refused("answer", ELEMENT, () -> x.answer(place));
            refused("number of a release", INDEX, () -> x.number(place, 0));
            refused("fetch", INDEX, () -> x.fetch(place, 0));
        }
        for (int client = 0; client < 4; client++) {
            int c = client;
            refused("since", ELEMENT, () -> x.since(c));
        }
    }

    public static void main(String[] args) {
        libraryPromises();
        clientPromises();
        otherPromises();
        for (Promise one : PROMISES) {
            tryPromise(one);
        }
        tryFresh();
        end("RangeTest");
    }
}
