/** A Linkwitness whose calls are counted: the document promises nothing of an object behind its 512th call. */
final class House {
    static final int CALLS = 512;
    private Linkwitness inside = new Linkwitness();
    private int calls = 0;

    int calls() {
        return calls;
    }

    /** Goes on with a new object. */
    void again() {
        inside = new Linkwitness();
        calls = 0;
    }

    /** Counts a call, and hands the object out for it. */
    Linkwitness next() {
        calls++;
        if (calls > CALLS) {
            throw new AssertionError("a test that makes more than 512 calls on one object");
        }
        return inside;
    }

    char type(int library, char type, char kind) {
        return next().type(library, type, kind);
    }

    boolean flag(int library, char type, char what, boolean is) {
        return next().flag(library, type, what, is);
    }

    char above(int library, char type, char other) {
        return next().above(library, type, other);
    }

    char maker(int library, char type, char sight) {
        return next().maker(library, type, sight);
    }

    boolean under(int library, char type, char other, boolean is) {
        return next().under(library, type, other, is);
    }

    char method(int library, char type, char name, int shape, char sight, char kind, int number) {
        return next().method(library, type, name, shape, sight, kind, number);
    }

    char field(int library, char type, char name, int shape, char sight, char kind, int number) {
        return next().field(library, type, name, shape, sight, kind, number);
    }

    char member(int library, char type, boolean isField, char name, int shape, char what) {
        return next().member(library, type, isField, name, shape, what);
    }

    int copy(int library, int to) {
        return next().copy(library, to);
    }

    int check(int library) {
        return next().check(library);
    }

    char resolved(int library, char type, char name, int shape) {
        return next().resolved(library, type, name, shape);
    }

    char selected(int library, char type, char name, int shape) {
        return next().selected(library, type, name, shape);
    }

    int wipe(int client) {
        return next().wipe(client);
    }

    boolean own(int client, boolean has) {
        return next().own(client, has);
    }

    char ownAbove(int client, char type) {
        return next().ownAbove(client, type);
    }

    boolean ownUnder(int client, char type, boolean is) {
        return next().ownUnder(client, type, is);
    }

    char ownMethod(int client, char name, int shape) {
        return next().ownMethod(client, name, shape);
    }

    int act(int client, char kind, char type, char name, int shape, char object) {
        return next().act(client, kind, type, name, shape, object);
    }

    char tells(int client, int index, char what) {
        return next().tells(client, index, what);
    }

    int run(int client, int library) {
        return next().run(client, library);
    }

    char fault() {
        return next().fault();
    }

    int answer(int index) {
        return next().answer(index);
    }

    boolean fits(int old, int library) {
        return next().fits(old, library);
    }

    int witness(int old, int library, int client) {
        return next().witness(old, library, client);
    }

    int release(int library) {
        return next().release(library);
    }

    int releases() {
        return next().releases();
    }

    int number(int release, int which) {
        return next().number(release, which);
    }

    int fetch(int release, int to) {
        return next().fetch(release, to);
    }

    int since(int client) {
        return next().since(client);
    }

    float openShare(int library) {
        return next().openShare(library);
    }

    double meanMembers(int library) {
        return next().meanMembers(library);
    }

    long checksum() {
        return next().checksum();
    }

    boolean isSound() {
        return next().isSound();
    }
}
