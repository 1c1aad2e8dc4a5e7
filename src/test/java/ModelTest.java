import java.util.ArrayList;
import java.util.List;
import java.util.Map;
import java.util.NoSuchElementException;
import java.util.TreeMap;
import java.util.TreeSet;

/**
 * Random calls on a Linkwitness and on a plain second writing of the document, whose looker tries every client there
 * is. The two must answer alike, exceptions and all. Arguments: how many rounds, and the seed; both may be left out.
 */
public final class ModelTest {

    // ---- the second writing: what a library is ----

    static final class Member {
        final char sight;
        final char kind;
        final int number;

        Member(char sight, char kind, int number) {
            this.sight = sight;
            this.kind = kind;
            this.number = number;
        }

        boolean isStatic() {
            return kind == 's' || kind == 'F';
        }

        @Override
        public String toString() {
            return sight + " " + kind + " " + number;
        }
    }

    static final class Type {
        final char kind;
        boolean open = true;
        boolean isAbstract = false;
        boolean isFinal = false;
        char superclass = '-';
        char maker = 'p';
        TreeSet<Character> interfaces = new TreeSet<>();
        TreeMap<String, Member> methods = new TreeMap<>();
        TreeMap<String, Member> fields = new TreeMap<>();

        Type(char kind) {
            this.kind = kind;
        }

        Type copy() {
            Type other = new Type(kind);
            other.open = open;
            other.isAbstract = isAbstract;
            other.isFinal = isFinal;
            other.superclass = superclass;
            other.maker = maker;
            other.interfaces = new TreeSet<>(interfaces);
            other.methods = new TreeMap<>(methods);
            other.fields = new TreeMap<>(fields);
            return other;
        }

        @Override
        public String toString() {
            return kind + (open ? "" : " closed") + (isAbstract ? " abstract" : "") + (isFinal ? " final" : "") + " maker " + maker
                + " under " + superclass + interfaces + " methods " + methods + " fields " + fields;
        }
    }

    static final String[] MEMBERS = {"a0", "a1", "b0", "b1", "c0", "c1"};
    static final String SIGHTS = "pokv";

    static final class Lib {
        final TreeMap<Character, Type> types = new TreeMap<>();
        final TreeMap<String, Character> memo = new TreeMap<>();

        Lib copy() {
            Lib other = new Lib();
            for (char name : types.keySet()) {
                other.types.put(name, types.get(name).copy());
            }
            return other;
        }

        boolean isInterface(char name) {
            return types.get(name).kind == 'i';
        }

        List<Character> chain(char name) {
            List<Character> chain = new ArrayList<>();
            char at = name;
            while (types.containsKey(at) && !isInterface(at) && !chain.contains(at)) {
                chain.add(at);
                at = types.get(at).superclass;
            }
            return chain;
        }

        TreeSet<Character> above(char name) {
            TreeSet<Character> found = new TreeSet<>();
            collectAbove(name, found);
            return found;
        }

        private void collectAbove(char name, TreeSet<Character> found) {
            Type type = types.get(name);
            TreeSet<Character> direct = new TreeSet<>(type.interfaces);
            direct.add(type.superclass);
            for (char one : direct) {
                if (types.containsKey(one) && found.add(one)) {
                    collectAbove(one, found);
                }
            }
        }

        boolean isUnder(char name, char other) {
            return name == other || above(name).contains(other);
        }

        /** Of the interfaces above a type those that have such a method, not static, and no other one of these under them. */
        List<Character> nearest(char name, String member) {
            List<Character> these = new ArrayList<>();
            for (char one : above(name)) {
                Member method = types.get(one).methods.get(member);
                if (isInterface(one) && method != null && !method.isStatic()) {
                    these.add(one);
                }
            }
            List<Character> left = new ArrayList<>();
            for (char one : these) {
                boolean isPassed = false;
                for (char other : these) {
                    isPassed |= other != one && above(other).contains(one);
                }
                if (!isPassed) {
                    left.add(one);
                }
            }
            return left;
        }

        List<Character> bodied(List<Character> those, String member) {
            List<Character> left = new ArrayList<>();
            for (char one : those) {
                if (types.get(one).methods.get(member).kind != 'a') {
                    left.add(one);
                }
            }
            return left;
        }

        char resolveMethod(char name, String member) {
            return memo.computeIfAbsent("r" + name + member, key -> resolveAnew(name, member));
        }

        private char resolveAnew(char name, String member) {
            if (isInterface(name)) {
                if (types.get(name).methods.containsKey(member)) {
                    return name;
                }
            } else {
                for (char one : chain(name)) {
                    if (types.get(one).methods.containsKey(member)) {
                        return one;
                    }
                }
            }
            List<Character> nearest = nearest(name, member);
            List<Character> bodied = bodied(nearest, member);
            if (bodied.size() == 1) {
                return bodied.get(0);
            }
            return nearest.isEmpty() ? '-' : nearest.get(0);
        }

        /** The type, or 'x' for the fault 'A', 'y' for 'I'. */
        char select(char name, String member) {
            return memo.computeIfAbsent("s" + name + member, key -> selectAnew(name, member));
        }

        private char selectAnew(char name, String member) {
            for (char one : chain(name)) {
                Member method = types.get(one).methods.get(member);
                if (method != null && !method.isStatic() && method.sight != 'v') {
                    return method.kind == 'a' ? 'x' : one;
                }
            }
            List<Character> bodied = bodied(nearest(name, member), member);
            return bodied.size() == 1 ? bodied.get(0) : bodied.isEmpty() ? 'x' : 'y';
        }

        char resolveField(char name, String member) {
            return memo.computeIfAbsent("f" + name + member, key -> (char) fieldAnew(name, member));
        }

        private int fieldAnew(char name, String member) {
            Type type = types.get(name);
            if (type.fields.containsKey(member)) {
                return name;
            }
            for (char one : type.interfaces) {
                int found = fieldAnew(one, member);
                if (found != '-') {
                    return found;
                }
            }
            return type.superclass == '-' ? '-' : fieldAnew(type.superclass, member);
        }

        // ---- whether it is lawful ----

        int law() {
            for (char name : types.keySet()) {
                int so = lawOf(name);
                if (so != 0) {
                    return 100 * (name - 'A') + so;
                }
            }
            return -1;
        }

        private int lawOf(char name) {
            Type type = types.get(name);
            boolean hasSuper = type.superclass != '-';
            Type superclass = types.get(type.superclass);
            if (hasSuper && (superclass == null || superclass.kind == 'i')) {
                return 1;
            }
            if (hasSuper && superclass.isFinal) {
                return 2;
            }
            for (char one : type.interfaces) {
                if (!types.containsKey(one) || !isInterface(one)) {
                    return 3;
                }
            }
            if (above(name).contains(name)) {
                return 4;
            }
            boolean isInterface = type.kind == 'i';
            if (isInterface && hasSuper || type.isAbstract && type.isFinal || hasSuper && superclass.maker == 'v') {
                return 5;
            }
            if (isInterface) {
                for (Member one : type.methods.values()) {
                    if (one.sight != 'p' || one.kind == 'f') {
                        return 6;
                    }
                }
                for (Member one : type.fields.values()) {
                    if (!(one.sight == 'p' && one.kind == 'F')) {
                        return 6;
                    }
                }
            }
            for (Member one : type.methods.values()) {
                if (one.kind == 'a' && (one.sight == 'v' || !isInterface && !type.isAbstract)) {
                    return 7;
                }
            }
            return laterLawOf(name, type, isInterface);
        }

        private int laterLawOf(char name, Type type, boolean isInterface) {
            for (char other : chain(name)) {
                for (String member : type.methods.keySet()) {
                    Member mine = type.methods.get(member);
                    Member its = types.get(other).methods.get(member);
                    if (other == name || its == null || its.sight == 'v') {
                        continue;
                    }
                    if (mine.isStatic() != its.isStatic() || its.kind == 'f' || SIGHTS.indexOf(mine.sight) > SIGHTS.indexOf(its.sight)) {
                        return 8;
                    }
                }
            }
            for (String member : type.methods.keySet()) {
                Member mine = type.methods.get(member);
                for (char other : above(name)) {
                    Member its = types.get(other).methods.get(member);
                    if (isInterface(other) && its != null && !its.isStatic() && (mine.isStatic() || mine.sight != 'p')) {
                        return 9;
                    }
                }
            }
            if (isInterface || type.isAbstract) {
                return 0;
            }
            for (String member : MEMBERS) {
                boolean isThere = false;
                for (char other : chain(name)) {
                    Member its = types.get(other).methods.get(member);
                    isThere |= its != null && !its.isStatic() && its.sight != 'v';
                }
                for (char other : above(name)) {
                    Member its = types.get(other).methods.get(member);
                    isThere |= isInterface(other) && its != null && !its.isStatic();
                }
                if (isThere && selectAnew(name, member) >= 'x') {
                    return 10;
                }
            }
            return 0;
        }
    }

    // ---- the second writing: clients ----

    static final class Act {
        final char kind;
        final char type;
        final String member;
        final char object;

        Act(char kind, char type, String member, char object) {
            this.kind = kind;
            this.type = type;
            this.member = member;
            this.object = object;
        }
    }

    static boolean hasType(char kind) {
        return "scigpGP".indexOf(kind) >= 0;
    }

    static boolean hasMember(char kind) {
        return "sciugpGP".indexOf(kind) >= 0;
    }

    static boolean hasObject(char kind) {
        return "nciGP".indexOf(kind) >= 0;
    }

    static final class Client {
        Type own = null;
        List<Act> acts = new ArrayList<>();

        String method() {
            return own == null || own.methods.isEmpty() ? "--" : own.methods.firstKey();
        }
    }

    static final class Fault extends Exception {
        final char letter;

        Fault(char letter) {
            super(null, null, false, false);
            this.letter = letter;
        }
    }

    /** A library seen by a client: with its class X among the types. */
    static final class Machine {
        final Lib lib;
        final boolean hasOwn;

        Machine(Lib plain, Type own) throws Fault {
            lib = new Lib();
            lib.types.putAll(plain.types);
            hasOwn = own != null;
            if (!hasOwn) {
                return;
            }
            if (own.superclass != '-') {
                Type superclass = plain.types.get(own.superclass);
                need(superclass != null, 'C');
                need(superclass.kind != 'i' && !superclass.isFinal, 'I');
                need(superclass.open, 'L');
            }
            for (char one : own.interfaces) {
                Type type = plain.types.get(one);
                need(type != null, 'C');
                need(type.kind == 'i', 'I');
                need(type.open, 'L');
            }
            lib.types.put('X', own);
            for (String member : own.methods.keySet()) {
                for (char one : lib.chain('X')) {
                    Member its = lib.types.get(one).methods.get(member);
                    boolean isSeen = its != null && one != 'X' && (its.sight == 'p' || its.sight == 'o');
                    need(!isSeen || !(its.kind == 'f' || its.kind == 's'), 'V');
                }
            }
        }

        static void need(boolean is, char letter) throws Fault {
            if (!is) {
                throw new Fault(letter);
            }
        }

        void make(char name) throws Fault {
            Type type = lib.types.get(name);
            if (name == 'X') {
                Type superclass = lib.types.get(type.superclass);
                need(superclass == null || superclass.maker == 'p' || superclass.maker == 'o', 'L');
                return;
            }
            need(type != null, 'C');
            need(type.open, 'L');
            need(type.kind == 'c' && !type.isAbstract, 'N');
            need(type.maker == 'p', 'L');
        }

        int perform(Act act) throws Fault {
            char kind = act.kind;
            char object = kind == 'u' ? 'X' : act.object;
            char by = kind == 'u' ? lib.types.get('X').superclass : act.type;
            if (object != '-') {
                make(object);
            }
            if (kind == 'n') {
                return 0;
            }
            Type type = lib.types.get(by);
            need(type != null, 'C');
            need(type.open, 'L');
            need(kind != 'c' && kind != 'u' || type.kind == 'c', 'I');
            need(kind != 'i' || type.kind == 'i', 'I');
            boolean isCall = "sciu".indexOf(kind) >= 0;
            char found = isCall ? lib.resolveMethod(by, act.member) : lib.resolveField(by, act.member);
            need(found != '-', isCall ? 'M' : 'F');
            need(kind != 's' || found == by || !lib.isInterface(found), 'M');
            Type owner = lib.types.get(found);
            Member member = isCall ? owner.methods.get(act.member) : owner.fields.get(act.member);
            boolean isKin = hasOwn && lib.isUnder('X', found) && (object == '-' || object == 'X');
            need(member.sight == 'p' || member.sight == 'o' && isKin, 'L');
            need(member.isStatic() == (kind == 's' || kind == 'g' || kind == 'p'), 'I');
            need(!(kind == 'p' || kind == 'P') || member.kind != 'f' && member.kind != 'F', 'L');
            if (object != '-') {
                need(lib.isUnder(object, by), kind == 'i' ? 'I' : 'V');
            }
            if (kind == 'c' || kind == 'i' || kind == 'u') {
                char chosen = lib.select(kind == 'u' ? by : object, act.member);
                need(chosen != 'x', 'A');
                need(chosen != 'y', 'I');
                Member its = lib.types.get(chosen).methods.get(act.member);
                need(kind != 'i' || its.sight == 'p', 'L');
                return its.number;
            }
            return kind == 'p' || kind == 'P' ? 0 : member.number;
        }
    }

    static final class Told {
        char fault = '-';
        final List<Integer> answers = new ArrayList<>();

        Told(Client client, Lib lib) {
            try {
                Machine machine = new Machine(lib, client.own);
                for (Act act : client.acts) {
                    answers.add(machine.perform(act));
                }
            } catch (Fault one) {
                fault = one.letter;
            }
        }
    }

    // ---- the second writing: the least client, by trying all of them in their order ----

    static final class Seat {
        Type own;
        int size;
        Machine before;
        Machine after;
    }

    static int sizeOf(Type own) {
        return 1 + (own == null ? 0 : 1 + (own.superclass == '-' ? 0 : 1) + own.interfaces.size() + own.methods.size());
    }

    static Machine machineOrNull(Lib lib, Type own) {
        try {
            return new Machine(lib, own);
        } catch (Fault one) {
            return null;
        }
    }

    static boolean goes(Machine machine, Act act) {
        if (machine == null) {
            return false;
        }
        try {
            machine.perform(act);
            return true;
        } catch (Fault one) {
            return false;
        }
    }

    static List<Type> allOwns() {
        List<Type> all = new ArrayList<>();
        all.add(null);
        String[] rows = {"", "A", "AB", "AC", "AD", "AE", "B", "BC", "BD", "BE", "C", "CD", "CE", "D", "DE", "E"};
        for (char superclass : "-ABCDE".toCharArray()) {
            for (String row : rows) {
                for (int member = -1; member < 6; member++) {
                    Type own = new Type('c');
                    own.superclass = superclass;
                    for (char one : row.toCharArray()) {
                        own.interfaces.add(one);
                    }
                    if (member >= 0) {
                        own.methods.put(MEMBERS[member], new Member('p', 'n', 100));
                    }
                    all.add(own);
                }
            }
        }
        return all;
    }

    static final List<Type> OWNS = allOwns();

    static List<Act> allActs() {
        List<Act> all = new ArrayList<>();
        for (char kind : "nsciugpGP".toCharArray()) {
            for (char type : (hasType(kind) ? "ABCDEX" : "-").toCharArray()) {
                for (String member : hasMember(kind) ? MEMBERS : new String[] {"--"}) {
                    for (char object : (hasObject(kind) ? "ABCDEX" : "-").toCharArray()) {
                        all.add(new Act(kind, type, member, object));
                    }
                }
            }
        }
        return all;
    }

    static final List<Act> ACTS = allActs();

    static Client least(Lib old, Lib later) {
        List<Seat> seats = new ArrayList<>();
        for (Type own : OWNS) {
            Seat seat = new Seat();
            seat.own = own;
            seat.size = sizeOf(own);
            seat.before = machineOrNull(old, own);
            seat.after = machineOrNull(later, own);
            if (seat.before != null) {
                seats.add(seat);
            }
        }
        for (int size = 1; size <= 6; size++) {
            for (Act act : ACTS) {
                for (Seat seat : seats) {
                    boolean needsOwn = act.type == 'X' || act.object == 'X' || act.kind == 'u';
                    if (seat.size != size || needsOwn && seat.own == null) {
                        continue;
                    }
                    if (goes(seat.before, act) && !goes(seat.after, act)) {
                        Client client = new Client();
                        client.own = seat.own == null ? null : seat.own.copy();
                        client.acts.add(act);
                        return client;
                    }
                }
            }
        }
        return null;
    }

    // ---- the second writing: the face ----

    static final class Model {
        final Lib[] libs = {new Lib(), new Lib(), new Lib(), new Lib()};
        final Client[] clients = {new Client(), new Client(), new Client(), new Client()};
        final List<Lib> released = new ArrayList<>();
        final List<int[]> numbers = new ArrayList<>();
        Told last = null;

        static void index(boolean is) {
            if (!is) {
                throw new IndexOutOfBoundsException();
            }
        }

        static void range(boolean is) {
            if (!is) {
                throw new IllegalArgumentException();
            }
        }

        static void element(boolean is) {
            if (!is) {
                throw new NoSuchElementException();
            }
        }

        static void support(boolean is) {
            if (!is) {
                throw new UnsupportedOperationException();
            }
        }

        static void state(boolean is) {
            if (!is) {
                throw new IllegalStateException();
            }
        }

        static boolean in(String all, char one) {
            return all.indexOf(one) >= 0;
        }

        static boolean isMember(char name, int shape) {
            return in("abc", name) && (shape == 0 || shape == 1);
        }

        static boolean four(int index) {
            return index >= 0 && index < 4;
        }

        Type there(int library, char type) {
            element(libs[library].types.containsKey(type));
            return libs[library].types.get(type);
        }

        long type(int library, char type, char kind) {
            index(four(library));
            range(in("ABCDE", type) && in("ci-", kind));
            Type former = libs[library].types.remove(type);
            if (kind != '-') {
                libs[library].types.put(type, new Type(kind));
            }
            libs[library].memo.clear();
            return former == null ? '-' : former.kind;
        }

        long flag(int library, char type, char what, boolean is) {
            index(four(library));
            range(in("ABCDE", type) && in("oaf", what));
            Type one = there(library, type);
            libs[library].memo.clear();
            boolean former = what == 'o' ? one.open : what == 'a' ? one.isAbstract : one.isFinal;
            if (what == 'o') {
                one.open = is;
            } else if (what == 'a') {
                one.isAbstract = is;
            } else {
                one.isFinal = is;
            }
            return former ? 1 : 0;
        }

        long above(int library, char type, char other) {
            index(four(library));
            range(in("ABCDE", type) && in("ABCDE-", other));
            Type one = there(library, type);
            libs[library].memo.clear();
            char former = one.superclass;
            one.superclass = other;
            return former;
        }

        long maker(int library, char type, char sight) {
            index(four(library));
            range(in("ABCDE", type) && in(SIGHTS, sight));
            Type one = there(library, type);
            char former = one.maker;
            one.maker = sight;
            return former;
        }

        long under(int library, char type, char other, boolean is) {
            index(four(library));
            range(in("ABCDE", type) && in("ABCDE", other));
            Type one = there(library, type);
            libs[library].memo.clear();
            boolean former = one.interfaces.contains(other);
            if (is) {
                one.interfaces.add(other);
            } else {
                one.interfaces.remove(other);
            }
            return former ? 1 : 0;
        }

        long put(boolean isField, int library, char type, char name, int shape, char sight, char kind, int number) {
            index(four(library));
            range(in("ABCDE", type) && isMember(name, shape) && in("pokv-", sight) && in(isField ? "nsfF" : "nsaf", kind)
                && number >= 0 && number <= 99);
            Type one = there(library, type);
            libs[library].memo.clear();
            TreeMap<String, Member> members = isField ? one.fields : one.methods;
            Member former = members.remove("" + name + shape);
            if (sight != '-') {
                members.put("" + name + shape, new Member(sight, kind, number));
            }
            return former == null ? '-' : former.sight;
        }

        long member(int library, char type, boolean isField, char name, int shape, char what) {
            index(four(library));
            range(in("ABCDE", type) && isMember(name, shape) && in("sk", what));
            Type one = there(library, type);
            Member member = (isField ? one.fields : one.methods).get("" + name + shape);
            return member == null ? '-' : what == 's' ? member.sight : member.kind;
        }

        long copy(int library, int to) {
            index(four(library) && four(to));
            libs[to] = libs[library].copy();
            return libs[to].types.size();
        }

        long check(int library) {
            index(four(library));
            return libs[library].law();
        }

        long resolved(int library, char type, char name, int shape) {
            index(four(library));
            range(in("ABCDE", type) && isMember(name, shape));
            there(library, type);
            support(libs[library].law() == -1);
            return libs[library].resolveMethod(type, "" + name + shape);
        }

        long selected(int library, char type, char name, int shape) {
            index(four(library));
            range(in("ABCDE", type) && isMember(name, shape));
            Type one = there(library, type);
            support(libs[library].law() == -1 && one.kind == 'c');
            return libs[library].select(type, "" + name + shape);
        }

        long wipe(int client) {
            index(four(client));
            int former = clients[client].acts.size();
            clients[client] = new Client();
            return former;
        }

        long own(int client, boolean has) {
            index(four(client));
            Client one = clients[client];
            boolean former = one.own != null;
            support(one.acts.isEmpty() || former == has);
            if (former != has) {
                one.own = has ? new Type('c') : null;
            }
            return former ? 1 : 0;
        }

        long ownAbove(int client, char type) {
            index(four(client));
            range(in("ABCDE-", type));
            support(clients[client].own != null);
            char former = clients[client].own.superclass;
            clients[client].own.superclass = type;
            return former;
        }

        long ownUnder(int client, char type, boolean is) {
            index(four(client));
            range(in("ABCDE", type));
            support(clients[client].own != null);
            TreeSet<Character> all = clients[client].own.interfaces;
            boolean former = all.contains(type);
            state(!is || former || all.size() < 2);
            if (is) {
                all.add(type);
            } else {
                all.remove(type);
            }
            return former ? 1 : 0;
        }

        long ownMethod(int client, char name, int shape) {
            index(four(client));
            range(in("abc-", name) && (shape == 0 || shape == 1));
            support(clients[client].own != null);
            char former = clients[client].method().charAt(0);
            clients[client].own.methods.clear();
            if (name != '-') {
                clients[client].own.methods.put("" + name + shape, new Member('p', 'n', 100));
            }
            return former;
        }

        long act(int client, char kind, char type, char name, int shape, char object) {
            index(four(client));
            Client one = clients[client];
            boolean has = one.own != null;
            range(in("nsciugpGP", kind));
            range(!hasType(kind) || in("ABCDE", type) || type == 'X' && has);
            range(!hasMember(kind) || isMember(name, shape));
            range(!hasObject(kind) || in("ABCDE", object) || object == 'X' && has);
            range(kind != 'u' || has);
            state(one.acts.size() < 8);
            one.acts.add(new Act(kind, hasType(kind) ? type : '-', hasMember(kind) ? "" + name + shape : "--",
                hasObject(kind) ? object : '-'));
            return one.acts.size();
        }

        long tells(int client, int index, char what) {
            index(four(client));
            Client one = clients[client];
            element(index >= -1 && index < one.acts.size());
            element(index != -1 || one.own != null);
            range(in(index == -1 ? "tijns" : "ktnso", what));
            if (index == -1) {
                List<Character> rows = new ArrayList<>(one.own.interfaces);
                return what == 't' ? one.own.superclass
                    : what == 'i' ? (rows.size() > 0 ? rows.get(0) : '-')
                    : what == 'j' ? (rows.size() > 1 ? rows.get(1) : '-')
                    : one.method().charAt(what == 'n' ? 0 : 1);
            }
            Act act = one.acts.get(index);
            return what == 'k' ? act.kind : what == 't' ? act.type : what == 'o' ? act.object
                : act.member.charAt(what == 'n' ? 0 : 1);
        }

        long run(int client, int library) {
            index(four(client) && four(library));
            support(libs[library].law() == -1);
            last = new Told(clients[client], libs[library]);
            return last.answers.size();
        }

        long fault() {
            element(last != null);
            return last.fault;
        }

        long answer(int index) {
            element(last != null && index >= 0 && index < last.answers.size());
            return last.answers.get(index);
        }

        long fits(int old, int library) {
            index(four(old) && four(library));
            support(libs[old].law() == -1 && libs[library].law() == -1);
            return least(libs[old], libs[library]) == null ? 1 : 0;
        }

        long witness(int old, int library, int client) {
            index(four(old) && four(library) && four(client));
            support(libs[old].law() == -1 && libs[library].law() == -1);
            Client found = least(libs[old], libs[library]);
            element(found != null);
            clients[client] = found;
            return sizeOf(found.own);
        }

        long release(int library) {
            index(four(library));
            support(libs[library].law() == -1);
            state(released.size() < 8);
            int[] next = {1, 0, 0};
            if (!released.isEmpty()) {
                Lib ahead = released.get(released.size() - 1);
                int[] its = numbers.get(numbers.size() - 1);
                if (least(ahead, libs[library]) != null) {
                    next = new int[] {its[0] + 1, 0, 0};
                } else if (least(libs[library], ahead) != null) {
                    next = new int[] {its[0], its[1] + 1, 0};
                } else {
                    next = new int[] {its[0], its[1], its[2] + 1};
                }
            }
            released.add(libs[library].copy());
            numbers.add(next);
            return released.size();
        }

        long number(int release, int which) {
            index(release >= 0 && release < released.size() && which >= 0 && which <= 2);
            return numbers.get(release)[which];
        }

        long fetch(int release, int to) {
            index(release >= 0 && release < released.size() && four(to));
            libs[to] = released.get(release).copy();
            return libs[to].types.size();
        }

        long since(int client) {
            index(four(client));
            for (int i = 0; i < released.size(); i++) {
                if (new Told(clients[client], released.get(i)).fault == '-') {
                    return i;
                }
            }
            throw new NoSuchElementException();
        }

        float openShare(int library) {
            index(four(library));
            int open = 0;
            for (Type one : libs[library].types.values()) {
                open += one.open ? 1 : 0;
            }
            if (libs[library].types.isEmpty()) {
                throw new ArithmeticException();
            }
            return (float) open / (float) libs[library].types.size();
        }

        double meanMembers(int library) {
            index(four(library));
            int members = 0;
            for (Type one : libs[library].types.values()) {
                members += one.methods.size() + one.fields.size();
            }
            if (libs[library].types.isEmpty()) {
                throw new ArithmeticException();
            }
            return (double) members / (double) libs[library].types.size();
        }

        long checksum() {
            List<Integer> all = new ArrayList<>();
            for (Lib lib : libs) {
                for (char name = 'A'; name <= 'E'; name++) {
                    Type type = lib.types.get(name);
                    all.add(type == null ? (int) '-' : (int) type.kind);
                    if (type != null) {
                        all.add(type.open ? 1 : 0);
                        all.add(type.isAbstract ? 1 : 0);
                        all.add(type.isFinal ? 1 : 0);
                        all.add((int) type.maker);
                        all.add((int) type.superclass);
                        for (char one : type.interfaces) {
                            all.add((int) one);
                        }
                        addMembers(all, type.methods);
                        addMembers(all, type.fields);
                    }
                }
            }
            for (Client one : clients) {
                all.add(one.acts.size());
                all.add(one.own == null ? 0 : 1);
            }
            for (int[] three : numbers) {
                for (int one : three) {
                    all.add(one);
                }
            }
            long sum = 7;
            for (int one : all) {
                sum = 31 * sum + one;
            }
            return sum;
        }

        static void addMembers(List<Integer> all, TreeMap<String, Member> members) {
            for (Member one : members.values()) {
                all.add((int) one.sight);
                all.add((int) one.kind);
                all.add(one.number);
            }
        }
    }

    // ---- random calls on both ----

    static long seed = 20261119L;

    static int random(int bound) {
        seed = seed * 6364136223846793005L + 1442695040888963407L;
        return (int) ((seed >>> 33) % bound);
    }

    static char pick(String all) {
        return all.charAt(random(all.length()));
    }

    static boolean chance(int of) {
        return random(of) == 0;
    }

    interface Call {
        Object go();
    }

    static Object outcome(Call call) {
        try {
            return call.go();
        } catch (IndexOutOfBoundsException | IllegalArgumentException | NoSuchElementException | IllegalStateException
            | UnsupportedOperationException | ArithmeticException one) {
            return one.getClass().getSimpleName();
        }
    }

    static int wrong = 0;
    static long compared = 0;
    static int witnessed = 0;
    static int fitted = 0;
    static final int[] sizes = new int[7];
    static final TreeMap<String, Integer> seen = new TreeMap<>();

    static Object same(String what, Call real, Call model, List<String> log) {
        Object got = outcome(real);
        Object due = outcome(model);
        compared++;
        log.add(what + " -> " + got);
        seen.merge(what.substring(0, what.indexOf('(')) + (got instanceof String ? " " + got : ""), 1, Integer::sum);
        if (!got.equals(due)) {
            wrong++;
            if (wrong <= 5) {
                for (String line : log) {
                    System.out.println("  " + line);
                }
                System.out.println(what + " answered " + got + ", due is " + due);
            }
        }
        return got;
    }

    static int library() {
        return chance(60) ? wildNumber(-1, 4) : random(4);
    }

    static int wildNumber(int below, int above) {
        switch (random(6)) {
            case 0:
                return Integer.MIN_VALUE;
            case 1:
                return Integer.MAX_VALUE;
            case 2: case 3:
                return below;
            default:
                return above;
        }
    }

    static char typeName() {
        return chance(60) ? pick("@FXa-\u0000\uffff") : pick("ABCDE");
    }

    static char memberName() {
        return chance(60) ? pick("`d-A\u0000\uffff") : pick("aab" + (chance(3) ? "c" : ""));
    }

    static int shape() {
        return chance(60) ? wildNumber(-1, 2) : chance(4) ? 1 : 0;
    }

    static void libraryCall(House x, Model m, List<String> log) {
        int l = library();
        char t = typeName();
        char n = memberName();
        int s = shape();
        switch (random(12)) {
            case 0: {
                char k = chance(40) ? pick("xC") : pick("cciic-");
                same("type(" + l + "," + t + "," + k + ")", () -> (long) x.type(l, t, k), () -> m.type(l, t, k), log);
                break;
            }
            case 1: {
                char w = chance(40) ? pick("xO") : pick("oaf");
                boolean is = chance(2);
                same("flag(" + l + "," + t + "," + w + "," + is + ")", () -> x.flag(l, t, w, is) ? 1L : 0L, () -> m.flag(l, t, w, is), log);
                break;
            }
            case 2: {
                char o = chance(40) ? pick("FX@") : pick("ABCDE-");
                same("above(" + l + "," + t + "," + o + ")", () -> (long) x.above(l, t, o), () -> m.above(l, t, o), log);
                break;
            }
            case 3: {
                char v = chance(40) ? pick("-xP") : pick("ppokv");
                same("maker(" + l + "," + t + "," + v + ")", () -> (long) x.maker(l, t, v), () -> m.maker(l, t, v), log);
                break;
            }
            case 4: {
                char o = chance(40) ? pick("FX-") : pick("ABCDE");
                boolean is = !chance(3);
                same("under(" + l + "," + t + "," + o + "," + is + ")", () -> x.under(l, t, o, is) ? 1L : 0L, () -> m.under(l, t, o, is), log);
                break;
            }
            case 5: case 6: case 7: {
                char v = chance(40) ? pick("xP") : pick("ppppokv-");
                char k = chance(40) ? pick("Fx-") : pick("nnsaf");
                int c = chance(40) ? wildNumber(-1, 100) : random(100);
                same("method(" + l + "," + t + "," + n + "," + s + "," + v + "," + k + "," + c + ")",
                    () -> (long) x.method(l, t, n, s, v, k, c), () -> m.put(false, l, t, n, s, v, k, c), log);
                break;
            }
            case 8: {
                char v = chance(40) ? pick("xP") : pick("pppokv-");
                char k = chance(40) ? pick("ax-") : pick("nsfF");
                int c = chance(40) ? wildNumber(-1, 100) : random(100);
                same("field(" + l + "," + t + "," + n + "," + s + "," + v + "," + k + "," + c + ")",
                    () -> (long) x.field(l, t, n, s, v, k, c), () -> m.put(true, l, t, n, s, v, k, c), log);
                break;
            }
            case 9: {
                char w = chance(40) ? pick("xn") : pick("sk");
                boolean f = chance(2);
                same("member(" + l + "," + t + "," + f + "," + n + "," + s + "," + w + ")",
                    () -> (long) x.member(l, t, f, n, s, w), () -> m.member(l, t, f, n, s, w), log);
                break;
            }
            case 10: {
                int to = library();
                if (chance(3)) {
                    same("copy(" + l + "," + to + ")", () -> (long) x.copy(l, to), () -> m.copy(l, to), log);
                }
                break;
            }
            default: {
                same("check(" + l + ")", () -> (long) x.check(l), () -> m.check(l), log);
                same("resolved(" + l + "," + t + "," + n + "," + s + ")", () -> (long) x.resolved(l, t, n, s), () -> m.resolved(l, t, n, s), log);
                same("selected(" + l + "," + t + "," + n + "," + s + ")", () -> (long) x.selected(l, t, n, s), () -> m.selected(l, t, n, s), log);
                break;
            }
        }
    }

    static void clientCall(House x, Model m, List<String> log) {
        int c = library();
        char t = chance(40) ? pick("@F-a") : pick("ABCDEXX");
        char n = memberName();
        int s = shape();
        char o = chance(40) ? pick("@F-a") : pick("ABCDEXX");
        switch (random(12)) {
            case 0: {
                if (chance(3)) {
                    same("wipe(" + c + ")", () -> (long) x.wipe(c), () -> m.wipe(c), log);
                }
                break;
            }
            case 1: {
                boolean is = !chance(3);
                same("own(" + c + "," + is + ")", () -> x.own(c, is) ? 1L : 0L, () -> m.own(c, is), log);
                break;
            }
            case 2: {
                char a = chance(30) ? pick("XF@") : pick("ABCDE-");
                same("ownAbove(" + c + "," + a + ")", () -> (long) x.ownAbove(c, a), () -> m.ownAbove(c, a), log);
                break;
            }
            case 3: {
                char a = chance(30) ? pick("XF-") : pick("ABCDE");
                boolean is = !chance(3);
                same("ownUnder(" + c + "," + a + "," + is + ")", () -> x.ownUnder(c, a, is) ? 1L : 0L, () -> m.ownUnder(c, a, is), log);
                break;
            }
            case 4: {
                char a = chance(30) ? pick("Ad") : pick("abc-");
                same("ownMethod(" + c + "," + a + "," + s + ")", () -> (long) x.ownMethod(c, a, s), () -> m.ownMethod(c, a, s), log);
                break;
            }
            case 5: case 6: case 7: case 8: {
                char k = chance(60) ? pick("xa-") : pick("nsciugpGP");
                same("act(" + c + "," + k + "," + t + "," + n + "," + s + "," + o + ")",
                    () -> (long) x.act(c, k, t, n, s, o), () -> m.act(c, k, t, n, s, o), log);
                break;
            }
            case 9: {
                int i = chance(20) ? wildNumber(-2, 8) : random(11) - 2;
                char w = chance(30) ? pick("xA") : pick("ktnsoij");
                same("tells(" + c + "," + i + "," + w + ")", () -> (long) x.tells(c, i, w), () -> m.tells(c, i, w), log);
                break;
            }
            default: {
                int l = library();
                runOnBoth(x, m, c, l, log);
                break;
            }
        }
    }

    static void runOnBoth(House x, Model m, int c, int l, List<String> log) {
        same("run(" + c + "," + l + ")", () -> (long) x.run(c, l), () -> m.run(c, l), log);
        Object fault = same("fault()", () -> (long) x.fault(), () -> m.fault(), log);
        if (fault instanceof Long) {
            seen.merge("fault " + (char) (long) (Long) fault, 1, Integer::sum);
        }
        for (int i = -1; i <= 8; i++) {
            int index = i;
            same("answer(" + i + ")", () -> (long) x.answer(index), () -> m.answer(index), log);
        }
    }

    static void releaseCall(House x, Model m, List<String> log) {
        int l = library();
        int r = chance(20) ? wildNumber(-1, 8) : random(10) - 1;
        switch (random(8)) {
            case 0: case 1:
                same("release(" + l + ")", () -> (long) x.release(l), () -> m.release(l), log);
                break;
            case 2:
                same("releases()", () -> (long) x.releases(), () -> (long) m.released.size(), log);
                break;
            case 3:
                for (int i = -1; i <= 3; i++) {
                    int w = i;
                    same("number(" + r + "," + w + ")", () -> (long) x.number(r, w), () -> m.number(r, w), log);
                }
                break;
            case 4:
                if (chance(3)) {
                    same("fetch(" + r + "," + l + ")", () -> (long) x.fetch(r, l), () -> m.fetch(r, l), log);
                }
                break;
            case 5:
                same("since(" + l + ")", () -> (long) x.since(l), () -> m.since(l), log);
                break;
            case 6:
                same("openShare(" + l + ")", () -> x.openShare(l), () -> m.openShare(l), log);
                same("meanMembers(" + l + ")", () -> x.meanMembers(l), () -> m.meanMembers(l), log);
                break;
            default:
                same("checksum()", () -> x.checksum(), () -> m.checksum(), log);
                break;
        }
    }

    static void lookCall(House x, Model m, List<String> log) {
        int old = library();
        int later = library();
        int c = library();
        if (chance(3)) {
            same("fits(" + old + "," + later + ")", () -> x.fits(old, later) ? 1L : 0L, () -> m.fits(old, later), log);
            return;
        }
        Object size = same("witness(" + old + "," + later + "," + c + ")", () -> (long) x.witness(old, later, c), () -> m.witness(old, later, c), log);
        if (size instanceof Long) {
            witnessed++;
            sizes[(int) (long) (Long) size]++;
            tellAll(x, m, c, log);
            runOnBoth(x, m, c, old, log);
            runOnBoth(x, m, c, later, log);
        } else if ("NoSuchElementException".equals(size)) {
            fitted++;
        }
    }

    static void tellAll(House x, Model m, int c, List<String> log) {
        for (char w : "tijnsktnso".toCharArray()) {
            same("tells(" + c + ",-1," + w + ")", () -> (long) x.tells(c, -1, w), () -> m.tells(c, -1, w), log);
            same("tells(" + c + ",0," + w + ")", () -> (long) x.tells(c, 0, w), () -> m.tells(c, 0, w), log);
        }
    }

    /** Any calls in any order. */
    static void wildRound() {
        House x = new House();
        Model m = new Model();
        List<String> log = new ArrayList<>();
        for (int i = 0; i < 12; i++) {
            int l = random(4);
            char t = pick("ABCDE");
            char k = pick("cci");
            same("type(" + l + "," + t + "," + k + ")", () -> (long) x.type(l, t, k), () -> m.type(l, t, k), log);
        }
        for (int i = 0; i < 150 && x.calls() < House.CALLS - 60; i++) {
            int which = random(100);
            if (which < 55) {
                libraryCall(x, m, log);
            } else if (which < 88) {
                clientCall(x, m, log);
            } else if (which < 98) {
                releaseCall(x, m, log);
            } else {
                lookCall(x, m, log);
            }
        }
        same("isSound()", () -> x.isSound() ? 1L : 0L, () -> 1L, log);
    }

    // ---- rounds of lawful libraries, and small changes of them ----

    static void set(House x, Model m, List<String> log, int l, char t) {
        char n = pick("aab");
        int s = chance(5) ? 1 : 0;
        int c = random(100);
        Type type = m.libs[l].types.get(t);
        boolean isInterface = type != null && type.kind == 'i';
        switch (random(9)) {
            case 0: {
                char w = pick("oaf");
                boolean is = w == 'f' ? chance(4) : w == 'o' ? !chance(3) : chance(2);
                same("flag(" + l + "," + t + "," + w + "," + is + ")", () -> x.flag(l, t, w, is) ? 1L : 0L, () -> m.flag(l, t, w, is), log);
                break;
            }
            case 1: {
                char o = pick("ABCDE-");
                if (!isInterface) {
                    same("above(" + l + "," + t + "," + o + ")", () -> (long) x.above(l, t, o), () -> m.above(l, t, o), log);
                }
                break;
            }
            case 2: {
                char v = pick("ppokv");
                same("maker(" + l + "," + t + "," + v + ")", () -> (long) x.maker(l, t, v), () -> m.maker(l, t, v), log);
                break;
            }
            case 3: {
                char o = pick("ABCDE");
                boolean is = !chance(5);
                same("under(" + l + "," + t + "," + o + "," + is + ")", () -> x.under(l, t, o, is) ? 1L : 0L, () -> m.under(l, t, o, is), log);
                break;
            }
            case 4: case 5: case 6: {
                char v = isInterface ? pick("ppp-") : pick("ppppoookv-");
                char k = isInterface ? pick("nnas") : pick("nnnsaf");
                same("method(" + l + "," + t + "," + n + "," + s + "," + v + "," + k + "," + c + ")",
                    () -> (long) x.method(l, t, n, s, v, k, c), () -> m.put(false, l, t, n, s, v, k, c), log);
                break;
            }
            case 7: {
                char v = isInterface ? pick("pp-") : pick("pppoookv-");
                char k = isInterface ? 'F' : pick("nsfF");
                same("field(" + l + "," + t + "," + n + "," + s + "," + v + "," + k + "," + c + ")",
                    () -> (long) x.field(l, t, n, s, v, k, c), () -> m.put(true, l, t, n, s, v, k, c), log);
                break;
            }
            default: {
                if (chance(4)) {
                    char k = pick("ci-");
                    same("type(" + l + "," + t + "," + k + ")", () -> (long) x.type(l, t, k), () -> m.type(l, t, k), log);
                }
                break;
            }
        }
    }

    /** Goes on with a new object that has the same first two libraries. */
    static void goOn(House x, Model m, List<String> log) {
        x.again();
        log.clear();
        for (int l = 0; l < 2; l++) {
            for (Map.Entry<Character, Type> entry : m.libs[l].types.entrySet()) {
                write(x, l, entry.getKey(), entry.getValue(), log);
            }
        }
        same("checksum()", () -> x.checksum(), () -> m.checksum(), log);
    }

    static void write(House x, int l, char t, Type type, List<String> log) {
        x.type(l, t, type.kind);
        x.flag(l, t, 'o', type.open);
        x.flag(l, t, 'a', type.isAbstract);
        x.flag(l, t, 'f', type.isFinal);
        x.above(l, t, type.superclass);
        x.maker(l, t, type.maker);
        for (char other : type.interfaces) {
            x.under(l, t, other, true);
        }
        for (String name : MEMBERS) {
            Member method = type.methods.get(name);
            if (method != null) {
                x.method(l, t, name.charAt(0), name.charAt(1) - '0', method.sight, method.kind, method.number);
            }
            Member field = type.fields.get(name);
            if (field != null) {
                x.field(l, t, name.charAt(0), name.charAt(1) - '0', field.sight, field.kind, field.number);
            }
        }
        log.add("library " + l + ": " + t + " " + type);
    }

    /** Changes a library some times, keeping only the changes by which it stays lawful. */
    static void changeLawfully(House x, Model m, List<String> log, int l, int times) {
        for (int i = 0; i < times; i++) {
            if (x.calls() > House.CALLS - 10) {
                goOn(x, m, log);
            }
            Lib before = m.libs[l].copy();
            x.copy(l, 3);
            log.add("copy(" + l + ",3)");
            set(x, m, log, l, pick("ABCDE"));
            same("check(" + l + ")", () -> (long) x.check(l), () -> m.check(l), log);
            if (m.libs[l].law() != -1) {
                m.libs[l] = before;
                x.copy(3, l);
                log.add("copy(3," + l + ")");
            }
        }
    }

    static void lawfulRound() {
        House x = new House();
        Model m = new Model();
        List<String> log = new ArrayList<>();
        String kinds = chance(2) ? "cccii" : chance(2) ? "ciiic" : chance(2) ? "icicc" : "iiccc";
        for (int i = 0; i < 5; i++) {
            char t = (char) ('A' + i);
            char k = chance(12) ? '-' : kinds.charAt(i);
            same("type(0," + t + "," + k + ")", () -> (long) x.type(0, t, k), () -> m.type(0, t, k), log);
        }
        changeLawfully(x, m, log, 0, 30 + random(150));
        goOn(x, m, log);
        for (char t : "ABCDE".toCharArray()) {
            for (char n : "abc".toCharArray()) {
                int s = random(2);
                same("resolved(0," + t + "," + n + "," + s + ")", () -> (long) x.resolved(0, t, n, s), () -> m.resolved(0, t, n, s), log);
                same("selected(0," + t + "," + n + "," + s + ")", () -> (long) x.selected(0, t, n, s), () -> m.selected(0, t, n, s), log);
            }
        }
        same("copy(0,1)", () -> (long) x.copy(0, 1), () -> m.copy(0, 1), log);
        changeLawfully(x, m, log, 1, 1 + random(3));
        lookBothWays(x, m, log);
        x.copy(0, 2);
        x.copy(0, 3);
        m.copy(0, 2);
        m.copy(0, 3);
        for (int i = 0; i < 12; i++) {
            busyClient(x, m, log);
        }
        same("isSound()", () -> x.isSound() ? 1L : 0L, () -> 1L, log);
        same("checksum()", () -> x.checksum(), () -> m.checksum(), log);
    }

    static void lookBothWays(House x, Model m, List<String> log) {
        for (int i = 0; i < 2; i++) {
            int old = i;
            int later = 1 - i;
            Object size = same("witness(" + old + "," + later + ",0)", () -> (long) x.witness(old, later, 0), () -> m.witness(old, later, 0), log);
            if (size instanceof Long) {
                witnessed++;
                sizes[(int) (long) (Long) size]++;
                tellAll(x, m, 0, log);
            } else {
                fitted++;
            }
            runOnBoth(x, m, 0, old, log);
            runOnBoth(x, m, 0, later, log);
        }
    }

    static void busyClient(House x, Model m, List<String> log) {
        same("wipe(1)", () -> (long) x.wipe(1), () -> m.wipe(1), log);
        boolean has = !chance(4);
        same("own(1," + has + ")", () -> x.own(1, has) ? 1L : 0L, () -> m.own(1, has), log);
        if (has) {
            char a = pick("ABCDE--");
            same("ownAbove(1," + a + ")", () -> (long) x.ownAbove(1, a), () -> m.ownAbove(1, a), log);
            for (int i = random(3); i > 0; i--) {
                char t = pick("ABCDE");
                same("ownUnder(1," + t + ",true)", () -> x.ownUnder(1, t, true) ? 1L : 0L, () -> m.ownUnder(1, t, true), log);
            }
            char n = pick("ab-");
            same("ownMethod(1," + n + ",0)", () -> (long) x.ownMethod(1, n, 0), () -> m.ownMethod(1, n, 0), log);
        }
        char k = pick("nsciugpGP");
        char t = pick("ABCDEXX");
        char n = pick("aab");
        char o = pick("ABCDEXXXX");
        same("act(1," + k + "," + t + "," + n + ",0," + o + ")", () -> (long) x.act(1, k, t, n, 0, o), () -> m.act(1, k, t, n, 0, o), log);
        runOnBoth(x, m, 1, 0, log);
    }

    // ---- rounds near the libraries that only a class X with a superclass and two interfaces tells apart ----

    static Type typed(char kind, Member method, String interfaces) {
        Type type = new Type(kind);
        if (method != null) {
            type.methods.put("a0", method);
        }
        for (char one : interfaces.toCharArray()) {
            type.interfaces.add(one);
        }
        return type;
    }

    /** The types stand for the letters of a row: a class, the two interfaces that it has, and one below each of these. */
    static Lib hardLib(String row, boolean isLater) {
        Lib lib = new Lib();
        Member body = new Member('p', 'n', 1);
        Member none = new Member('p', 'a', 2);
        lib.types.put(row.charAt(0), typed('c', null, row.substring(1, 3)));
        lib.types.get(row.charAt(0)).isAbstract = true;
        lib.types.put(row.charAt(1), typed('i', body, ""));
        lib.types.put(row.charAt(2), typed('i', body, ""));
        lib.types.get(row.charAt(2)).open = false;
        lib.types.put(row.charAt(3), typed('i', none, row.substring(1, 2)));
        lib.types.put(row.charAt(4), typed('i', isLater ? none : null, isLater ? row.substring(2, 3) : ""));
        return lib;
    }

    static String shuffled() {
        StringBuilder row = new StringBuilder("ABCDE");
        for (int i = 4; i > 0; i--) {
            int j = random(i + 1);
            char one = row.charAt(i);
            row.setCharAt(i, row.charAt(j));
            row.setCharAt(j, one);
        }
        return row.toString();
    }

    static void hardRound() {
        House x = new House();
        Model m = new Model();
        List<String> log = new ArrayList<>();
        String row = shuffled();
        m.libs[0] = hardLib(row, false);
        m.libs[1] = hardLib(row, true);
        goOn(x, m, log);
        changeLawfully(x, m, log, 0, random(4));
        changeLawfully(x, m, log, 1, random(4));
        lookBothWays(x, m, log);
        same("isSound()", () -> x.isSound() ? 1L : 0L, () -> 1L, log);
    }

    public static void main(String[] args) {
        int rounds = args.length > 0 ? Integer.parseInt(args[0]) : 300;
        seed = args.length > 1 ? Long.parseLong(args[1]) : seed;
        for (int i = 0; i < rounds && wrong < 5; i++) {
            wildRound();
            lawfulRound();
            hardRound();
        }
        System.out.println("ModelTest: " + compared + " answers, " + witnessed + " least clients by size "
            + java.util.Arrays.toString(sizes) + ", " + fitted + " fit, " + wrong + " wrong");
        if (args.length > 2) {
            System.out.println(seen);
        }
        if (wrong != 0) {
            System.exit(1);
        }
    }
}
