import java.util.Arrays;
import java.util.NoSuchElementException;

/** A house of linking: libraries, clients, releases, and a looker for the least client that tells two libraries apart. */
public final class Linkwitness {
    private static final int LIBRARIES = 4;
    private static final int CLIENTS = 4;
    private static final int RELEASES = 8;
    private static final int NUMBERS = 3;
    private static final int ACTS = 8;
    private static final int TYPES = 5;
    /** The client's own class has the row behind those of the library's types. */
    private static final int X = 5;
    private static final int ROWS = 6;
    private static final int MEMBERS = 6;
    private static final int NONE = -1;
    private static final char NO = '-';
    private static final int OWN_NUMBER = 100;
    private static final int LAWFUL = -1;

    /** The kinds of acts, in the order by which clients are compared. */
    private static final char[] KINDS = {'n', 's', 'c', 'i', 'u', 'g', 'p', 'G', 'P'};
    private static final int MAKE = 0;
    private static final int CALL_STATIC = 1;
    private static final int CALL_CLASS = 2;
    private static final int CALL_INTERFACE = 3;
    private static final int CALL_SUPER = 4;
    private static final int GET_STATIC = 5;
    private static final int PUT_STATIC = 6;
    private static final int GET = 7;
    private static final int PUT = 8;

    /** The sets of at most two interfaces, as masks, in the order of their rows of letters: none, A, AB, AC, ... E. */
    private static final int[] PAIRS = {0, 1, 3, 5, 9, 17, 2, 6, 10, 18, 4, 12, 20, 8, 24, 16};

    private final Machine[] libraries = new Machine[LIBRARIES];
    private final Client[] clients = new Client[CLIENTS];
    private final Machine[] released = new Machine[RELEASES];
    private final int[] numbers = new int[RELEASES * NUMBERS];
    private final Run lastRun = new Run();
    private final Run trialRun = new Run();
    private final Looker looker = new Looker();
    private final int[] fitting = new int[LIBRARIES];
    private int releaseCount = 0;

    public Linkwitness() {
        for (int i = 0; i < LIBRARIES; i++) {
            libraries[i] = new Machine();
        }
        for (int i = 0; i < CLIENTS; i++) {
            clients[i] = new Client();
        }
        for (int i = 0; i < RELEASES; i++) {
            released[i] = new Machine();
        }
    }

    // ---- libraries ----

    public char type(int library, char type, char kind) throws IndexOutOfBoundsException, IllegalArgumentException {
        needPlace(library, LIBRARIES);
        needRange(isType(type) && (kind == 'c' || kind == 'i' || kind == NO));
        Machine machine = libraries[library];
        char former = machine.library.kind[type - 'A'];
        machine.library.renew(type - 'A', kind);
        machine.changed();
        return former;
    }

    public boolean flag(int library, char type, char what, boolean is) throws IndexOutOfBoundsException, IllegalArgumentException, NoSuchElementException {
        needPlace(library, LIBRARIES);
        needRange(isType(type) && (what == 'o' || what == 'a' || what == 'f'));
        Machine machine = libraries[library];
        needThere(machine, type);
        boolean[] flags = machine.library.flagsOf(what);
        boolean former = flags[type - 'A'];
        flags[type - 'A'] = is;
        machine.changed();
        return former;
    }

    public char above(int library, char type, char other) throws IndexOutOfBoundsException, IllegalArgumentException, NoSuchElementException {
        needPlace(library, LIBRARIES);
        needRange(isType(type) && (isType(other) || other == NO));
        Machine machine = libraries[library];
        needThere(machine, type);
        int former = machine.library.superclass[type - 'A'];
        machine.library.superclass[type - 'A'] = other == NO ? NONE : other - 'A';
        machine.changed();
        return letter(former);
    }

    public char maker(int library, char type, char sight) throws IndexOutOfBoundsException, IllegalArgumentException, NoSuchElementException {
        needPlace(library, LIBRARIES);
        needRange(isType(type) && isSight(sight));
        Machine machine = libraries[library];
        needThere(machine, type);
        char former = machine.library.maker[type - 'A'];
        machine.library.maker[type - 'A'] = sight;
        machine.changed();
        return former;
    }

    public boolean under(int library, char type, char other, boolean is) throws IndexOutOfBoundsException, IllegalArgumentException, NoSuchElementException {
        needPlace(library, LIBRARIES);
        needRange(isType(type) && isType(other));
        Machine machine = libraries[library];
        needThere(machine, type);
        int former = machine.library.interfaces[type - 'A'];
        machine.library.interfaces[type - 'A'] = with(former, other - 'A', is);
        machine.changed();
        return has(former, other - 'A');
    }

    public char method(int library, char type, char name, int shape, char sight, char kind, int number) throws IndexOutOfBoundsException, IllegalArgumentException, NoSuchElementException {
        needPlace(library, LIBRARIES);
        needRange(isType(type) && isMember(name, shape) && (isSight(sight) || sight == NO));
        needRange((kind == 'n' || kind == 's' || kind == 'a' || kind == 'f') && number >= 0 && number <= 99);
        Machine machine = libraries[library];
        needThere(machine, type);
        machine.changed();
        return machine.library.methods.put(memberPlace(type, name, shape), sight, kind, number);
    }

    public char field(int library, char type, char name, int shape, char sight, char kind, int number) throws IndexOutOfBoundsException, IllegalArgumentException, NoSuchElementException {
        needPlace(library, LIBRARIES);
        needRange(isType(type) && isMember(name, shape) && (isSight(sight) || sight == NO));
        needRange((kind == 'n' || kind == 's' || kind == 'f' || kind == 'F') && number >= 0 && number <= 99);
        Machine machine = libraries[library];
        needThere(machine, type);
        machine.changed();
        return machine.library.fields.put(memberPlace(type, name, shape), sight, kind, number);
    }

    public char member(int library, char type, boolean isField, char name, int shape, char what) throws IndexOutOfBoundsException, IllegalArgumentException, NoSuchElementException {
        needPlace(library, LIBRARIES);
        needRange(isType(type) && isMember(name, shape) && (what == 's' || what == 'k'));
        Machine machine = libraries[library];
        needThere(machine, type);
        Members members = isField ? machine.library.fields : machine.library.methods;
        int place = memberPlace(type, name, shape);
        return what == 's' ? members.sight[place] : members.kind[place];
    }

    public int copy(int library, int to) throws IndexOutOfBoundsException {
        needPlace(library, LIBRARIES);
        needPlace(to, LIBRARIES);
        libraries[to].become(libraries[library]);
        return libraries[to].library.typeCount();
    }

    public int check(int library) throws IndexOutOfBoundsException {
        needPlace(library, LIBRARIES);
        return libraries[library].law();
    }

    public char resolved(int library, char type, char name, int shape) throws IndexOutOfBoundsException, IllegalArgumentException, NoSuchElementException, UnsupportedOperationException {
        needPlace(library, LIBRARIES);
        needRange(isType(type) && isMember(name, shape));
        Machine machine = libraries[library];
        needThere(machine, type);
        needSupport(machine.law() == LAWFUL);
        return letter(machine.links.resolvedIn[memberPlace(type, name, shape)]);
    }

    public char selected(int library, char type, char name, int shape) throws IndexOutOfBoundsException, IllegalArgumentException, NoSuchElementException, UnsupportedOperationException {
        needPlace(library, LIBRARIES);
        needRange(isType(type) && isMember(name, shape));
        Machine machine = libraries[library];
        needThere(machine, type);
        needSupport(machine.law() == LAWFUL && machine.library.kind[type - 'A'] == 'c');
        int chosen = machine.links.selectedIn[memberPlace(type, name, shape)];
        if (chosen >= 0) {
            return letter(chosen);
        }
        return chosen == -'A' ? 'x' : 'y';
    }

    // ---- clients ----

    public int wipe(int client) throws IndexOutOfBoundsException {
        needPlace(client, CLIENTS);
        int former = clients[client].count;
        clients[client].clear();
        return former;
    }

    public boolean own(int client, boolean has) throws IndexOutOfBoundsException, UnsupportedOperationException {
        needPlace(client, CLIENTS);
        Client wanted = clients[client];
        boolean former = wanted.own.isThere;
        needSupport(wanted.count == 0 || former == has);
        if (former != has) {
            wanted.own.clear();
            wanted.own.isThere = has;
        }
        return former;
    }

    public char ownAbove(int client, char type) throws IndexOutOfBoundsException, IllegalArgumentException, UnsupportedOperationException {
        needPlace(client, CLIENTS);
        needRange(isType(type) || type == NO);
        Own own = clients[client].own;
        needSupport(own.isThere);
        int former = own.superclass;
        own.superclass = type == NO ? NONE : type - 'A';
        return letter(former);
    }

    public boolean ownUnder(int client, char type, boolean is) throws IndexOutOfBoundsException, IllegalArgumentException, UnsupportedOperationException, IllegalStateException {
        needPlace(client, CLIENTS);
        needRange(isType(type));
        Own own = clients[client].own;
        needSupport(own.isThere);
        int former = own.interfaces;
        int later = with(former, type - 'A', is);
        needState(Integer.bitCount(later) <= 2);
        own.interfaces = later;
        return has(former, type - 'A');
    }

    public char ownMethod(int client, char name, int shape) throws IndexOutOfBoundsException, IllegalArgumentException, UnsupportedOperationException {
        needPlace(client, CLIENTS);
        needRange(isMember(name, shape) || (name == NO && (shape == 0 || shape == 1)));
        Own own = clients[client].own;
        needSupport(own.isThere);
        int former = own.member;
        own.member = name == NO ? NONE : memberIndex(name, shape);
        return nameOf(former);
    }

    public int act(int client, char kind, char type, char name, int shape, char object) throws IndexOutOfBoundsException, IllegalArgumentException, IllegalStateException {
        needPlace(client, CLIENTS);
        Client wanted = clients[client];
        int index = kindIndex(kind);
        boolean isThere = wanted.own.isThere;
        needRange(index != NONE && (index != CALL_SUPER || isThere));
        needRange(!hasType(index) || isType(type) || (type == 'X' && isThere));
        needRange(!hasMember(index) || isMember(name, shape));
        needRange(!hasObject(index) || isType(object) || (object == 'X' && isThere));
        needState(wanted.count < ACTS);
        int byType = hasType(index) ? rowOf(type) : NONE;
        int byMember = hasMember(index) ? memberIndex(name, shape) : NONE;
        int ofObject = hasObject(index) ? rowOf(object) : NONE;
        wanted.add(index, byType, byMember, ofObject);
        return wanted.count;
    }

    public char tells(int client, int index, char what) throws IndexOutOfBoundsException, NoSuchElementException, IllegalArgumentException {
        needPlace(client, CLIENTS);
        Client wanted = clients[client];
        needElement(index >= NONE && index < wanted.count && (index != NONE || wanted.own.isThere));
        if (index == NONE) {
            needRange(what == 't' || what == 'i' || what == 'j' || what == 'n' || what == 's');
            return ownThing(wanted.own, what);
        }
        needRange(what == 'k' || what == 't' || what == 'n' || what == 's' || what == 'o');
        return actThing(wanted, index, what);
    }

    public int run(int client, int library) throws IndexOutOfBoundsException, UnsupportedOperationException {
        needPlace(client, CLIENTS);
        needPlace(library, LIBRARIES);
        needSupport(libraries[library].law() == LAWFUL);
        lastRun.follow(clients[client], libraries[library]);
        return lastRun.went;
    }

    public char fault() throws NoSuchElementException {
        needElement(lastRun.wasMade);
        return lastRun.broke;
    }

    public int answer(int index) throws NoSuchElementException {
        needElement(lastRun.wasMade && index >= 0 && index < lastRun.went);
        return lastRun.told[index];
    }

    // ---- looking ----

    public boolean fits(int old, int library) throws IndexOutOfBoundsException, UnsupportedOperationException {
        needPlace(old, LIBRARIES);
        needPlace(library, LIBRARIES);
        needSupport(libraries[old].law() == LAWFUL && libraries[library].law() == LAWFUL);
        return looker.find(libraries[old], libraries[library]) == 0;
    }

    public int witness(int old, int library, int client) throws IndexOutOfBoundsException, UnsupportedOperationException, NoSuchElementException {
        needPlace(old, LIBRARIES);
        needPlace(library, LIBRARIES);
        needPlace(client, CLIENTS);
        needSupport(libraries[old].law() == LAWFUL && libraries[library].law() == LAWFUL);
        int size = looker.find(libraries[old], libraries[library]);
        needElement(size != 0);
        clients[client].become(looker.least);
        return size;
    }

    // ---- releases ----

    public int release(int library) throws IndexOutOfBoundsException, UnsupportedOperationException, IllegalStateException {
        needPlace(library, LIBRARIES);
        needSupport(libraries[library].law() == LAWFUL);
        needState(releaseCount < RELEASES);
        int place = releaseCount;
        released[place].become(libraries[library]);
        released[place].law();
        int step = stepOf(place);
        for (int which = 0; which < NUMBERS; which++) {
            numbers[place * NUMBERS + which] = numberDue(place, which, step);
        }
        releaseCount++;
        return releaseCount;
    }

    public int releases() {
        return releaseCount;
    }

    public int number(int release, int which) throws IndexOutOfBoundsException {
        needPlace(release, releaseCount);
        needPlace(which, NUMBERS);
        return numbers[release * NUMBERS + which];
    }

    public int fetch(int release, int to) throws IndexOutOfBoundsException {
        needPlace(release, releaseCount);
        needPlace(to, LIBRARIES);
        libraries[to].become(released[release]);
        return libraries[to].library.typeCount();
    }

    public int since(int client) throws IndexOutOfBoundsException, NoSuchElementException {
        needPlace(client, CLIENTS);
        int found = NONE;
        for (int place = 0; place < releaseCount && found == NONE; place++) {
            trialRun.follow(clients[client], released[place]);
            found = trialRun.broke == NO ? place : NONE;
        }
        needElement(found != NONE);
        return found;
    }

    // ---- figures ----

    public float openShare(int library) throws IndexOutOfBoundsException, ArithmeticException {
        needPlace(library, LIBRARIES);
        Library wanted = libraries[library].library;
        int count = wanted.typeCount();
        needDivisor(count);
        return (float) wanted.openCount() / (float) count;
    }

    public double meanMembers(int library) throws IndexOutOfBoundsException, ArithmeticException {
        needPlace(library, LIBRARIES);
        Library wanted = libraries[library].library;
        int count = wanted.typeCount();
        needDivisor(count);
        return (double) (wanted.methods.countAll() + wanted.fields.countAll()) / (double) count;
    }

    public long checksum() {
        long sum = 7;
        for (int i = 0; i < LIBRARIES; i++) {
            sum = libraries[i].library.addTo(sum);
        }
        for (int i = 0; i < CLIENTS; i++) {
            sum = 31 * sum + clients[i].count;
            sum = 31 * sum + (clients[i].own.isThere ? 1 : 0);
        }
        for (int i = 0; i < releaseCount * NUMBERS; i++) {
            sum = 31 * sum + numbers[i];
        }
        return sum;
    }

    public boolean isSound() {
        return areFittingsSound() && doesFittingGoOn() && areNumbersSound();
    }

    /** Fills the rows of fitting, and tells whether each least client does what it is told for. */
    private boolean areFittingsSound() {
        for (int old = 0; old < LIBRARIES; old++) {
            fitting[old] = 0;
            for (int later = 0; later < LIBRARIES; later++) {
                if (libraries[old].law() != LAWFUL || libraries[later].law() != LAWFUL) {
                    continue;
                }
                int size = looker.find(libraries[old], libraries[later]);
                if (size == 0) {
                    fitting[old] |= 1 << later;
                } else if (old == later || !doesLeastTell(old, later)) {
                    return false;
                }
            }
        }
        return true;
    }

    private boolean doesLeastTell(int old, int later) {
        trialRun.follow(looker.least, libraries[old]);
        if (trialRun.broke != NO) {
            return false;
        }
        trialRun.follow(looker.least, libraries[later]);
        return trialRun.broke != NO;
    }

    private boolean doesFittingGoOn() {
        for (int old = 0; old < LIBRARIES; old++) {
            for (int later = 0; later < LIBRARIES; later++) {
                if (has(fitting[old], later) && (fitting[later] & ~fitting[old]) != 0) {
                    return false;
                }
            }
        }
        return true;
    }

    private boolean areNumbersSound() {
        for (int place = 0; place < releaseCount; place++) {
            int step = stepOf(place);
            for (int which = 0; which < NUMBERS; which++) {
                if (numbers[place * NUMBERS + which] != numberDue(place, which, step)) {
                    return false;
                }
            }
        }
        return true;
    }

    /** Which of its three numbers goes on by the release at a place, the ones behind it beginning again. */
    private int stepOf(int place) {
        if (place == 0) {
            return 0;
        }
        if (looker.find(released[place - 1], released[place]) != 0) {
            return 0;
        }
        return looker.find(released[place], released[place - 1]) != 0 ? 1 : 2;
    }

    private int numberDue(int place, int which, int step) {
        int former = place == 0 ? 0 : numbers[(place - 1) * NUMBERS + which];
        return which < step ? former : which == step ? former + 1 : 0;
    }

    // ---- what a call needs ----

    private static void needPlace(int place, int count) {
        if (place < 0 || place >= count) {
            throw new IndexOutOfBoundsException();
        }
    }

    private static void needRange(boolean isIn) {
        if (!isIn) {
            throw new IllegalArgumentException();
        }
    }

    private static void needThere(Machine machine, char type) {
        needElement(machine.library.kind[type - 'A'] != NO);
    }

    private static void needElement(boolean isThere) {
        if (!isThere) {
            throw new NoSuchElementException();
        }
    }

    private static void needSupport(boolean is) {
        if (!is) {
            throw new UnsupportedOperationException();
        }
    }

    private static void needState(boolean is) {
        if (!is) {
            throw new IllegalStateException();
        }
    }

    private static void needDivisor(int count) {
        if (count == 0) {
            throw new ArithmeticException();
        }
    }

    // ---- letters and numbers ----

    private static boolean isType(char type) {
        return type >= 'A' && type <= 'E';
    }

    private static boolean isMember(char name, int shape) {
        return name >= 'a' && name <= 'c' && (shape == 0 || shape == 1);
    }

    private static boolean isSight(char sight) {
        return sightRank(sight) != NONE;
    }

    /** The higher it is, the fewer see. */
    private static int sightRank(char sight) {
        return sight == 'p' ? 0 : sight == 'o' ? 1 : sight == 'k' ? 2 : sight == 'v' ? 3 : NONE;
    }

    private static int memberIndex(char name, int shape) {
        return (name - 'a') * 2 + shape;
    }

    private static int memberPlace(char type, char name, int shape) {
        return (type - 'A') * MEMBERS + memberIndex(name, shape);
    }

    private static int rowOf(char type) {
        return type == 'X' ? X : type - 'A';
    }

    private static char letter(int row) {
        return row == NONE ? NO : row == X ? 'X' : (char) ('A' + row);
    }

    private static char nameOf(int member) {
        return member == NONE ? NO : (char) ('a' + member / 2);
    }

    private static char shapeOf(int member) {
        return member == NONE ? NO : (char) ('0' + member % 2);
    }

    private static int kindIndex(char kind) {
        for (int i = 0; i < KINDS.length; i++) {
            if (KINDS[i] == kind) {
                return i;
            }
        }
        return NONE;
    }

    private static boolean hasType(int kind) {
        return kind != MAKE && kind != CALL_SUPER;
    }

    private static boolean hasMember(int kind) {
        return kind != MAKE;
    }

    private static boolean hasObject(int kind) {
        return kind == MAKE || kind == CALL_CLASS || kind == CALL_INTERFACE || kind == GET || kind == PUT;
    }

    private static boolean isCall(int kind) {
        return kind >= CALL_STATIC && kind <= CALL_SUPER;
    }

    private static boolean has(int mask, int bit) {
        return (mask >> bit & 1) == 1;
    }

    private static int with(int mask, int bit, boolean is) {
        return is ? mask | 1 << bit : mask & ~(1 << bit);
    }

    private static char ownThing(Own own, char what) {
        if (what == 't') {
            return letter(own.superclass);
        }
        if (what == 'n') {
            return nameOf(own.member);
        }
        if (what == 's') {
            return shapeOf(own.member);
        }
        int left = what == 'i' ? 0 : 1;
        for (int type = 0; type < TYPES; type++) {
            if (has(own.interfaces, type)) {
                if (left == 0) {
                    return letter(type);
                }
                left--;
            }
        }
        return NO;
    }

    private static char actThing(Client client, int index, char what) {
        if (what == 'k') {
            return KINDS[client.kinds[index]];
        }
        if (what == 't') {
            return letter(client.types[index]);
        }
        if (what == 'n') {
            return nameOf(client.members[index]);
        }
        return what == 's' ? shapeOf(client.members[index]) : letter(client.objects[index]);
    }

    /** The methods, or the fields, of all types of a library: six places for each type, by name and shape. */
    private static final class Members {
        final char[] sight = new char[TYPES * MEMBERS];
        final char[] kind = new char[TYPES * MEMBERS];
        final int[] number = new int[TYPES * MEMBERS];

        Members() {
            for (int i = 0; i < TYPES * MEMBERS; i++) {
                sight[i] = NO;
                kind[i] = NO;
            }
        }

        char put(int place, char newSight, char newKind, int newNumber) {
            char former = sight[place];
            boolean isNone = newSight == NO;
            sight[place] = newSight;
            kind[place] = isNone ? NO : newKind;
            number[place] = isNone ? 0 : newNumber;
            return former;
        }

        void clear(int type) {
            for (int i = 0; i < MEMBERS; i++) {
                put(type * MEMBERS + i, NO, NO, 0);
            }
        }

        void become(Members other) {
            System.arraycopy(other.sight, 0, sight, 0, sight.length);
            System.arraycopy(other.kind, 0, kind, 0, kind.length);
            System.arraycopy(other.number, 0, number, 0, number.length);
        }

        int countAll() {
            int count = 0;
            for (char one : sight) {
                count += one == NO ? 0 : 1;
            }
            return count;
        }

        long addTo(long sum, int type) {
            long later = sum;
            for (int place = type * MEMBERS; place < type * MEMBERS + MEMBERS; place++) {
                if (sight[place] != NO) {
                    later = 31 * later + sight[place];
                    later = 31 * later + kind[place];
                    later = 31 * later + number[place];
                }
            }
            return later;
        }
    }

    /** What is declared in a library. */
    private static final class Library {
        final char[] kind = new char[TYPES];
        final boolean[] isOpen = new boolean[TYPES];
        final boolean[] isAbstract = new boolean[TYPES];
        final boolean[] isFinal = new boolean[TYPES];
        final char[] maker = new char[TYPES];
        final int[] superclass = new int[TYPES];
        /** The interfaces of each type, as a mask. */
        final int[] interfaces = new int[TYPES];
        final Members methods = new Members();
        final Members fields = new Members();

        Library() {
            for (int type = 0; type < TYPES; type++) {
                kind[type] = NO;
                superclass[type] = NONE;
            }
        }

        void renew(int type, char newKind) {
            kind[type] = newKind;
            isOpen[type] = true;
            isAbstract[type] = false;
            isFinal[type] = false;
            maker[type] = 'p';
            superclass[type] = NONE;
            interfaces[type] = 0;
            methods.clear(type);
            fields.clear(type);
        }

        void become(Library other) {
            System.arraycopy(other.kind, 0, kind, 0, TYPES);
            System.arraycopy(other.isOpen, 0, isOpen, 0, TYPES);
            System.arraycopy(other.isAbstract, 0, isAbstract, 0, TYPES);
            System.arraycopy(other.isFinal, 0, isFinal, 0, TYPES);
            System.arraycopy(other.maker, 0, maker, 0, TYPES);
            System.arraycopy(other.superclass, 0, superclass, 0, TYPES);
            System.arraycopy(other.interfaces, 0, interfaces, 0, TYPES);
            methods.become(other.methods);
            fields.become(other.fields);
        }

        boolean[] flagsOf(char what) {
            return what == 'o' ? isOpen : what == 'a' ? isAbstract : isFinal;
        }

        int typeCount() {
            int count = 0;
            for (char one : kind) {
                count += one == NO ? 0 : 1;
            }
            return count;
        }

        int openCount() {
            int count = 0;
            for (int type = 0; type < TYPES; type++) {
                count += kind[type] != NO && isOpen[type] ? 1 : 0;
            }
            return count;
        }

        long addTo(long sum) {
            long later = sum;
            for (int type = 0; type < TYPES; type++) {
                later = 31 * later + kind[type];
                if (kind[type] != NO) {
                    later = addType(later, type);
                }
            }
            return later;
        }

        private long addType(long sum, int type) {
            long later = 31 * sum + (isOpen[type] ? 1 : 0);
            later = 31 * later + (isAbstract[type] ? 1 : 0);
            later = 31 * later + (isFinal[type] ? 1 : 0);
            later = 31 * later + maker[type];
            later = 31 * later + letter(superclass[type]);
            for (int other = 0; other < TYPES; other++) {
                if (has(interfaces[type], other)) {
                    later = 31 * later + letter(other);
                }
            }
            return fields.addTo(methods.addTo(later, type), type);
        }
    }

    /** What follows from a library's declarations: rows 0 to 4 for its types, row 5 for a guest's class X. */
    private static final class Links {
        int there;
        int classes;
        final int[] aboveOf = new int[ROWS];
        /** By row and member: the type of the first method of whatever sight in the chain, or an interface's own. */
        final int[] firstIn = new int[ROWS * MEMBERS];
        /** By row and member: the type of the first method seen from above in the chain of a class. */
        final int[] seenIn = new int[ROWS * MEMBERS];
        /** By member: the interfaces that have a method that is not static, and those whose one is not abstract. */
        final int[] instanceIn = new int[MEMBERS];
        final int[] bodyIn = new int[MEMBERS];
        final int[] resolvedIn = new int[ROWS * MEMBERS];
        /** By row and member: the selected method's type, or the fault's code below 0. */
        final int[] selectedIn = new int[ROWS * MEMBERS];
        final int[] fieldIn = new int[ROWS * MEMBERS];
        int knownMethods;
        /** The types that may be above a client's class. */
        int extendable;
        int implementable;
        /** By kind of act: the members that could go through, by their sight and kind alone. */
        final int[] usable = new int[KINDS.length];

        void derive(Library library) {
            there = 0;
            classes = 0;
            for (int type = 0; type < TYPES; type++) {
                there |= library.kind[type] != NO ? 1 << type : 0;
                classes |= library.kind[type] == 'c' ? 1 << type : 0;
            }
            deriveAbove(library);
            deriveInterfaceMethods(library.methods);
            for (int type = 0; type < TYPES; type++) {
                walkChain(library, type);
                deriveChoices(library, type);
            }
        }

        private void deriveAbove(Library library) {
            for (int type = 0; type < TYPES; type++) {
                int direct = library.interfaces[type];
                if (library.superclass[type] != NONE) {
                    direct |= 1 << library.superclass[type];
                }
                aboveOf[type] = has(there, type) ? direct & there : 0;
            }
            for (int middle = 0; middle < TYPES; middle++) {
                for (int type = 0; type < TYPES; type++) {
                    if (has(aboveOf[type], middle)) {
                        aboveOf[type] |= aboveOf[middle];
                    }
                }
            }
        }

        private void deriveInterfaceMethods(Members methods) {
            Arrays.fill(instanceIn, 0);
            Arrays.fill(bodyIn, 0);
            for (int type = 0; type < TYPES; type++) {
                for (int member = 0; member < MEMBERS; member++) {
                    char kind = methods.kind[type * MEMBERS + member];
                    if (kind != NO && kind != 's' && !has(classes, type)) {
                        instanceIn[member] |= 1 << type;
                        bodyIn[member] |= kind == 'a' ? 0 : 1 << type;
                    }
                }
            }
        }

        private void walkChain(Library library, int type) {
            for (int place = type * MEMBERS; place < type * MEMBERS + MEMBERS; place++) {
                firstIn[place] = NONE;
                seenIn[place] = NONE;
            }
            if (has(there, type)) {
                noteMethods(library.methods, type, type);
            }
            int at = has(classes, type) ? library.superclass[type] : NONE;
            // What would come again in the chain has been noted, so that the count of types ends it soon enough.
            for (int steps = 1; steps < TYPES && at != NONE && has(classes, at); steps++) {
                noteMethods(library.methods, type, at);
                at = library.superclass[at];
            }
        }

        private void noteMethods(Members methods, int type, int at) {
            for (int member = 0; member < MEMBERS; member++) {
                int place = type * MEMBERS + member;
                char sight = methods.sight[at * MEMBERS + member];
                if (firstIn[place] == NONE && sight != NO) {
                    firstIn[place] = at;
                }
                boolean isSeen = sight != NO && sight != 'v' && methods.kind[at * MEMBERS + member] != 's';
                if (seenIn[place] == NONE && isSeen) {
                    seenIn[place] = at;
                }
            }
        }

        /** Resolves and selects every method by the type of a row, out of its chain and of what is above it. */
        void deriveChoices(Library library, int row) {
            for (int member = 0; member < MEMBERS; member++) {
                int place = row * MEMBERS + member;
                int near = nearest(instanceIn[member] & aboveOf[row]);
                int bodied = near & bodyIn[member];
                resolvedIn[place] = firstIn[place];
                if (firstIn[place] == NONE) {
                    resolvedIn[place] = lowest(Integer.bitCount(bodied) == 1 ? bodied : near);
                }
                int seen = seenIn[place];
                if (seen != NONE) {
                    boolean isAbstract = seen != X && library.methods.kind[seen * MEMBERS + member] == 'a';
                    selectedIn[place] = isAbstract ? -'A' : seen;
                } else {
                    int count = Integer.bitCount(bodied);
                    selectedIn[place] = count == 1 ? lowest(bodied) : count == 0 ? -'A' : -'I';
                }
            }
        }

        /** Those of some interfaces that no other one of these is under. */
        private int nearest(int candidates) {
            int left = candidates;
            for (int one = 0; one < TYPES && candidates != 0; one++) {
                int bit = 1 << one;
                if ((candidates & bit) != 0) {
                    left &= ~(aboveOf[one] & ~bit);
                }
            }
            return left;
        }

        private int lowest(int mask) {
            for (int type = 0; type < TYPES && mask != 0; type++) {
                if ((mask >> type & 1) == 1) {
                    return type;
                }
            }
            return NONE;
        }

        /** For lawful libraries alone: there a type has more above it than each one above it has. */
        void deriveLawful(Library library) {
            for (int count = 0; count < TYPES; count++) {
                for (int type = 0; type < TYPES; type++) {
                    if (Integer.bitCount(aboveOf[type]) == count) {
                        deriveFields(library, type);
                    }
                }
            }
            extendable = 0;
            implementable = 0;
            for (int type = 0; type < TYPES; type++) {
                boolean isOpen = has(there, type) && library.isOpen[type];
                extendable |= isOpen && has(classes, type) && !library.isFinal[type] ? 1 << type : 0;
                implementable |= isOpen && !has(classes, type) ? 1 << type : 0;
            }
            deriveUsable(library);
        }

        private void deriveFields(Library library, int type) {
            for (int member = 0; member < MEMBERS; member++) {
                int place = type * MEMBERS + member;
                fieldIn[place] = library.fields.sight[place] != NO ? type
                    : inheritedField(library.interfaces[type], library.superclass[type], member);
            }
        }

        private int inheritedField(int interfaces, int superclass, int member) {
            for (int one = 0; one < TYPES; one++) {
                if ((interfaces >> one & 1) == 1 && fieldIn[one * MEMBERS + member] != NONE) {
                    return fieldIn[one * MEMBERS + member];
                }
            }
            return superclass == NONE ? NONE : fieldIn[superclass * MEMBERS + member];
        }

        private void deriveUsable(Library library) {
            Arrays.fill(usable, 0);
            knownMethods = 0;
            for (int place = 0; place < TYPES * MEMBERS; place++) {
                int bit = 1 << place % MEMBERS;
                knownMethods |= library.methods.sight[place] == NO ? 0 : bit;
                if (isFarSeen(library.methods.sight[place])) {
                    boolean isStatic = library.methods.kind[place] == 's';
                    usable[CALL_STATIC] |= isStatic ? bit : 0;
                    usable[CALL_CLASS] |= isStatic ? 0 : bit;
                }
                if (isFarSeen(library.fields.sight[place])) {
                    char kind = library.fields.kind[place];
                    usable[GET_STATIC] |= kind == 's' || kind == 'F' ? bit : 0;
                    usable[PUT_STATIC] |= kind == 's' ? bit : 0;
                    usable[GET] |= kind == 'n' || kind == 'f' ? bit : 0;
                    usable[PUT] |= kind == 'n' ? bit : 0;
                }
            }
            usable[CALL_INTERFACE] = usable[CALL_CLASS];
            usable[CALL_SUPER] = usable[CALL_CLASS];
        }

        private boolean isFarSeen(char sight) {
            return sight == 'p' || sight == 'o';
        }

        /** Writes the row of a guest's class whose superclass and interfaces are there. */
        void seat(Own own) {
            aboveOf[X] = own.interfaces;
            for (int one = 0; one < TYPES; one++) {
                if (has(own.interfaces, one)) {
                    aboveOf[X] |= aboveOf[one];
                }
            }
            if (own.superclass != NONE) {
                aboveOf[X] |= 1 << own.superclass | aboveOf[own.superclass];
            }
            for (int member = 0; member < MEMBERS; member++) {
                int place = X * MEMBERS + member;
                int further = own.superclass == NONE ? NONE : own.superclass * MEMBERS + member;
                firstIn[place] = own.member == member ? X : further == NONE ? NONE : firstIn[further];
                seenIn[place] = own.member == member ? X : further == NONE ? NONE : seenIn[further];
                fieldIn[place] = inheritedField(own.interfaces, own.superclass, member);
            }
        }
    }

    /** The ten things of part 1 by which a library is not lawful. */
    private static final class Laws {
        private Laws() {
        }

        static int firstBroken(Library library, Links links) {
            for (int type = 0; type < TYPES; type++) {
                int broken = library.kind[type] == NO ? 0 : brokenBy(library, links, type);
                if (broken != 0) {
                    return 100 * type + broken;
                }
            }
            return LAWFUL;
        }

        private static int brokenBy(Library library, Links links, int type) {
            int superclass = library.superclass[type];
            if (superclass != NONE && library.kind[superclass] != 'c') {
                return 1;
            }
            if (superclass != NONE && library.isFinal[superclass]) {
                return 2;
            }
            if ((library.interfaces[type] & ~(links.there & ~links.classes)) != 0) {
                return 3;
            }
            if (has(links.aboveOf[type], type)) {
                return 4;
            }
            if (isBadlyMade(library, type)) {
                return 5;
            }
            if (library.kind[type] == 'i' && hasWrongMember(library, type)) {
                return 6;
            }
            if (hasWrongAbstract(library, type)) {
                return 7;
            }
            if (library.kind[type] == 'c' && standsWrongly(library, type)) {
                return 8;
            }
            if (hidesInterface(library, links, type)) {
                return 9;
            }
            return library.kind[type] == 'c' && !library.isAbstract[type] && lacksMethod(links, type) ? 10 : 0;
        }

        private static boolean isBadlyMade(Library library, int type) {
            int superclass = library.superclass[type];
            return (library.kind[type] == 'i' && superclass != NONE)
                || (library.isAbstract[type] && library.isFinal[type])
                || (superclass != NONE && library.maker[superclass] == 'v');
        }

        private static boolean hasWrongMember(Library library, int type) {
            for (int place = type * MEMBERS; place < type * MEMBERS + MEMBERS; place++) {
                char method = library.methods.sight[place];
                if (method != NO && (method != 'p' || library.methods.kind[place] == 'f')) {
                    return true;
                }
                char field = library.fields.sight[place];
                if (field != NO && (field != 'p' || library.fields.kind[place] != 'F')) {
                    return true;
                }
            }
            return false;
        }

        private static boolean hasWrongAbstract(Library library, int type) {
            boolean isWhole = library.kind[type] == 'c' && !library.isAbstract[type];
            for (int place = type * MEMBERS; place < type * MEMBERS + MEMBERS; place++) {
                if (library.methods.kind[place] == 'a' && (isWhole || library.methods.sight[place] == 'v')) {
                    return true;
                }
            }
            return false;
        }

        private static boolean standsWrongly(Library library, int type) {
            int at = library.superclass[type];
            // The type is not above itself, and what comes again further on has been asked.
            for (int steps = 1; steps < TYPES && at != NONE && library.kind[at] == 'c'; steps++) {
                for (int member = 0; member < MEMBERS; member++) {
                    if (clashes(library.methods, type * MEMBERS + member, at * MEMBERS + member)) {
                        return true;
                    }
                }
                at = library.superclass[at];
            }
            return false;
        }

        /** Whether a method may not be where one of a class further on is. */
        private static boolean clashes(Members methods, int own, int further) {
            char sight = methods.sight[further];
            if (methods.sight[own] == NO || sight == NO || sight == 'v') {
                return false;
            }
            return (methods.kind[own] == 's') != (methods.kind[further] == 's')
                || methods.kind[further] == 'f'
                || sightRank(methods.sight[own]) > sightRank(sight);
        }

        private static boolean hidesInterface(Library library, Links links, int type) {
            int others = links.aboveOf[type] & ~(1 << type);
            for (int member = 0; member < MEMBERS; member++) {
                char sight = library.methods.sight[type * MEMBERS + member];
                boolean isWeak = sight != NO && (sight != 'p' || library.methods.kind[type * MEMBERS + member] == 's');
                if (isWeak && (links.instanceIn[member] & others) != 0) {
                    return true;
                }
            }
            return false;
        }

        private static boolean lacksMethod(Links links, int type) {
            for (int member = 0; member < MEMBERS; member++) {
                boolean isAsked = links.seenIn[type * MEMBERS + member] != NONE
                    || (links.instanceIn[member] & links.aboveOf[type]) != 0;
                if (isAsked && links.selectedIn[type * MEMBERS + member] < 0) {
                    return true;
                }
            }
            return false;
        }
    }

    /** A library with what follows from it: loads a client's class and does single acts. */
    private static final class Machine {
        final Library library = new Library();
        final Links links = new Links();
        private boolean isReady = false;
        private int lawCode = LAWFUL;
        private boolean hasGuest = false;
        private int guestSuperclass = NONE;

        void changed() {
            isReady = false;
        }

        void become(Machine other) {
            library.become(other.library);
            isReady = false;
        }

        /** All else of a machine may be asked only behind this, and when it told that the library is lawful. */
        int law() {
            if (!isReady) {
                links.derive(library);
                lawCode = Laws.firstBroken(library, links);
                if (lawCode == LAWFUL) {
                    links.deriveLawful(library);
                }
                isReady = true;
            }
            return lawCode;
        }

        /** Returns the fault of loading a client's class, or NO. */
        char load(Own own) {
            hasGuest = own.isThere;
            guestSuperclass = own.superclass;
            if (!own.isThere) {
                return NO;
            }
            char fault = own.superclass == NONE ? NO : aboveFault(own.superclass, false);
            for (int type = 0; type < TYPES && fault == NO; type++) {
                fault = has(own.interfaces, type) ? aboveFault(type, true) : NO;
            }
            if (fault == NO && own.member != NONE && own.superclass != NONE && isBarred(own.superclass, own.member)) {
                fault = 'V';
            }
            if (fault == NO) {
                links.seat(own);
                links.deriveChoices(library, X);
            }
            return fault;
        }

        /** Whether a client's class may have a superclass, or NONE, and a set of interfaces. */
        boolean mayBeAbove(int superclass, int interfaces) {
            return (superclass == NONE || has(links.extendable, superclass)) && (interfaces & ~links.implementable) == 0;
        }

        private char aboveFault(int type, boolean asInterface) {
            if (library.kind[type] == NO) {
                return 'C';
            }
            boolean isWrong = asInterface ? library.kind[type] == 'c' : library.kind[type] == 'i' || library.isFinal[type];
            if (isWrong) {
                return 'I';
            }
            return library.isOpen[type] ? NO : 'L';
        }

        private boolean isBarred(int superclass, int member) {
            int at = superclass;
            for (int steps = 0; steps < TYPES && at != NONE; steps++) {
                char sight = library.methods.sight[at * MEMBERS + member];
                char kind = library.methods.kind[at * MEMBERS + member];
                if ((sight == 'p' || sight == 'o') && (kind == 'f' || kind == 's')) {
                    return true;
                }
                at = library.superclass[at];
            }
            return false;
        }

        /** Does an act: returns what it tells, or the fault's code below 0. */
        int perform(int kind, int type, int member, int object) {
            int made = kind == CALL_SUPER ? X : object;
            int by = kind == CALL_SUPER ? guestSuperclass : type;
            char fault = made == NONE ? NO : makingFault(made);
            if (fault != NO) {
                return -fault;
            }
            if (kind == MAKE) {
                return 0;
            }
            fault = typeFault(kind, by);
            if (fault != NO) {
                return -fault;
            }
            boolean isCall = isCall(kind);
            int owner = isCall ? links.resolvedIn[by * MEMBERS + member] : links.fieldIn[by * MEMBERS + member];
            if (owner == NONE || (kind == CALL_STATIC && owner != by && !isClass(owner))) {
                return isCall ? -'M' : -'F';
            }
            Members members = isCall ? library.methods : library.fields;
            fault = owner == X ? ownUseFault(kind) : useFault(kind, members, owner, member, made);
            if (fault != NO) {
                return -fault;
            }
            if (made != NONE && made != by && !has(links.aboveOf[made], by)) {
                return kind == CALL_INTERFACE ? -'I' : -'V';
            }
            if (isCall && kind != CALL_STATIC) {
                return dispatch(kind, kind == CALL_SUPER ? by : made, member);
            }
            return kind == PUT || kind == PUT_STATIC ? 0 : members.number[owner * MEMBERS + member];
        }

        private boolean isClass(int row) {
            return row == X || library.kind[row] == 'c';
        }

        private char makingFault(int row) {
            if (row == X) {
                char maker = guestSuperclass == NONE ? 'p' : library.maker[guestSuperclass];
                return maker == 'p' || maker == 'o' ? NO : 'L';
            }
            if (library.kind[row] == NO) {
                return 'C';
            }
            if (!library.isOpen[row]) {
                return 'L';
            }
            if (library.kind[row] == 'i' || library.isAbstract[row]) {
                return 'N';
            }
            return library.maker[row] == 'p' ? NO : 'L';
        }

        private char typeFault(int kind, int row) {
            if (row == NONE) {
                return 'C';
            }
            if (row == X) {
                return kind == CALL_INTERFACE ? 'I' : NO;
            }
            if (library.kind[row] == NO) {
                return 'C';
            }
            if (!library.isOpen[row]) {
                return 'L';
            }
            boolean isInterface = library.kind[row] == 'i';
            boolean isWrong = isInterface ? kind == CALL_CLASS || kind == CALL_SUPER : kind == CALL_INTERFACE;
            return isWrong ? 'I' : NO;
        }

        /** The method of X is for all, and not static. */
        private char ownUseFault(int kind) {
            return kind == CALL_STATIC ? 'I' : NO;
        }

        private char useFault(int kind, Members members, int owner, int member, int made) {
            char sight = members.sight[owner * MEMBERS + member];
            char memberKind = members.kind[owner * MEMBERS + member];
            boolean isKin = hasGuest && (links.aboveOf[X] >> owner & 1) == 1 && (made == NONE || made == X);
            if (sight != 'p' && (sight != 'o' || !isKin)) {
                return 'L';
            }
            boolean isStatic = memberKind == 's' || memberKind == 'F';
            boolean isForStatic = kind == CALL_STATIC || kind == GET_STATIC || kind == PUT_STATIC;
            if (isStatic != isForStatic) {
                return 'I';
            }
            // A final method is none that is put.
            boolean isPut = kind == PUT || kind == PUT_STATIC;
            return isPut && (memberKind == 'F' || memberKind == 'f') ? 'L' : NO;
        }

        private int dispatch(int kind, int row, int member) {
            int chosen = links.selectedIn[row * MEMBERS + member];
            if (chosen < 0) {
                return chosen;
            }
            if (chosen == X) {
                return OWN_NUMBER;
            }
            int place = chosen * MEMBERS + member;
            return kind == CALL_INTERFACE && library.methods.sight[place] != 'p' ? -'L' : library.methods.number[place];
        }
    }

    /** A client's class X. */
    private static final class Own {
        boolean isThere = false;
        int superclass = NONE;
        int interfaces = 0;
        int member = NONE;

        void clear() {
            isThere = false;
            superclass = NONE;
            interfaces = 0;
            member = NONE;
        }

        void become(Own other) {
            isThere = other.isThere;
            superclass = other.superclass;
            interfaces = other.interfaces;
            member = other.member;
        }

        void set(int newSuperclass, int newInterfaces, int newMember) {
            isThere = true;
            superclass = newSuperclass;
            interfaces = newInterfaces;
            member = newMember;
        }
    }

    /** A class X, or none, and acts by numbers: kind, type, member and object, NONE for what a kind has not. */
    private static final class Client {
        final Own own = new Own();
        int count = 0;
        final int[] kinds = new int[ACTS];
        final int[] types = new int[ACTS];
        final int[] members = new int[ACTS];
        final int[] objects = new int[ACTS];

        void clear() {
            own.clear();
            count = 0;
        }

        void add(int kind, int type, int member, int object) {
            if (count >= ACTS) {
                return;
            }
            kinds[count] = kind;
            types[count] = type;
            members[count] = member;
            objects[count] = object;
            count++;
        }

        void become(Client other) {
            own.become(other.own);
            count = 0;
            for (int i = 0; i < other.count; i++) {
                add(other.kinds[i], other.types[i], other.members[i], other.objects[i]);
            }
        }
    }

    /** What came of a client's run. */
    private static final class Run {
        boolean wasMade = false;
        int went = 0;
        char broke = NO;
        final int[] told = new int[ACTS];

        void follow(Client client, Machine machine) {
            wasMade = true;
            went = 0;
            broke = machine.load(client.own);
            for (int i = 0; i < client.count && broke == NO; i++) {
                int answer = machine.perform(client.kinds[i], client.types[i], client.members[i], client.objects[i]);
                if (answer < 0) {
                    broke = (char) -answer;
                } else {
                    told[i] = answer;
                    went++;
                }
            }
        }
    }

    /** Looks for the least client that goes through by an old library and not by a later one. */
    private static final class Looker {
        private static final int BIGGEST = 6;
        private static final int NOT_FOUND = 1 << 20;
        final Client least = new Client();
        private final Own trial = new Own();
        private Machine old = null;
        private Machine later = null;
        private int leastCode = NOT_FOUND;

        /** Returns the size of that client, which is then in least, or 0 without one; both libraries are lawful. */
        int find(Machine oldOne, Machine laterOne) {
            old = oldOne;
            later = laterOne;
            leastCode = NOT_FOUND;
            trial.clear();
            old.load(trial);
            later.load(trial);
            tryActs(false);
            int size = 1;
            while (leastCode == NOT_FOUND && size < BIGGEST) {
                size++;
                trySize(size);
            }
            return leastCode == NOT_FOUND ? 0 : size;
        }

        /** Tries the classes X of a size in their order, so that of equal acts the first one stays. */
        private void trySize(int size) {
            int known = old.links.knownMethods | later.links.knownMethods;
            for (int superclass = NONE; superclass < TYPES; superclass++) {
                for (int interfaces : PAIRS) {
                    int rest = size - 2 - (superclass == NONE ? 0 : 1) - Integer.bitCount(interfaces);
                    if (rest < 0 || rest > 1 || !old.mayBeAbove(superclass, interfaces)) {
                        continue;
                    }
                    for (int member = rest == 0 ? NONE : 0; member < (rest == 0 ? 0 : MEMBERS); member++) {
                        trial.set(superclass, interfaces, member);
                        // A method that neither library knows is seen by its own acts alone, which tell what making X tells.
                        boolean isWorth = member == NONE || has(known, member);
                        if (isWorth && old.load(trial) == NO) {
                            tryActs(later.load(trial) != NO);
                        }
                    }
                }
            }
        }

        /** Tries acts in their order, up to the first one that tells the libraries apart, or is not less than the least. */
        private void tryActs(boolean isBroken) {
            int lastType = trial.isThere ? X : X - 1;
            // An act with an object of the library's goes by X as without it: the clients of size 1 were that.
            int firstObject = trial.isThere && !isBroken ? X : 0;
            for (int kind = 0; kind < KINDS.length; kind++) {
                int usable = worthTrying(kind, isBroken);
                if (usable == 0 && hasMember(kind)) {
                    continue;
                }
                int typeEnd = hasType(kind) ? lastType : NONE;
                int memberEnd = hasMember(kind) ? MEMBERS - 1 : NONE;
                int objectEnd = hasObject(kind) ? lastType : NONE;
                for (int type = hasType(kind) ? 0 : NONE; type <= typeEnd; type++) {
                    for (int member = hasMember(kind) ? 0 : NONE; member <= memberEnd; member++) {
                        if (member != NONE && !has(usable, member)) {
                            continue;
                        }
                        for (int object = hasObject(kind) ? firstObject : NONE; object <= objectEnd; object++) {
                            int code = ((kind * 7 + type + 1) * 7 + member + 1) * 7 + object + 1;
                            if (code >= leastCode) {
                                return;
                            }
                            if (old.perform(kind, type, member, object) >= 0
                                && (isBroken || later.perform(kind, type, member, object) < 0)) {
                                keep(code, kind, type, member, object);
                                return;
                            }
                        }
                    }
                }
            }
        }

        /** The members for which an act of a kind may be the least one, by the class X that is tried. */
        private int worthTrying(int kind, boolean isBroken) {
            int known = old.links.usable[kind];
            if (kind == CALL_SUPER && !trial.isThere) {
                return 0;
            }
            if (trial.member == NONE || isBroken) {
                return known;
            }
            // All other acts go by X as without its method: the clients of the size below were that.
            return kind == CALL_CLASS || kind == CALL_INTERFACE ? 1 << trial.member : 0;
        }

        private void keep(int code, int kind, int type, int member, int object) {
            leastCode = code;
            least.count = 0;
            least.own.become(trial);
            least.add(kind, type, member, object);
        }
    }
}
