import java.util.function.Consumer;
import java.util.function.ToLongFunction;

/**
 * "What is refused, or found, changes nothing but status()": each refusal of each call, made of one of two
 * objects that are alike; what can be seen of both stays alike.
 */
final class RefusedTest {
    private static final int BAD = DreamGraves.BAD, STATE = DreamGraves.STATE, FULL = DreamGraves.FULL;
    private static final int NULL = -1000011, PLACE = -1000012, KIND = -1000013, SIZE = -1000014, STORE = -1000015;
    private static final int MIN = Integer.MIN_VALUE, MAX = Integer.MAX_VALUE;
    private static final String TEXT = "g3,5,4;d9,5,0;w5,9,0;s0,0,0;m27,3,0;";

    private final Consumer<DreamGraves> made;

    private RefusedTest(Consumer<DreamGraves> made) {
        this.made = made;
    }

    public static void main(String[] args) {
        RefusedTest none = new RefusedTest(RefusedTest::makeWithoutYard);
        none.rowCalls();
        none.withoutYard();
        RefusedTest told = new RefusedTest(RefusedTest::makeTold);
        told.rowCalls();
        told.whatIsTold();
        told.whatIsDone();
        told.whatIsSeen();
        told.foretold();
        told.foretoldByRows();
        told.asked();
        new RefusedTest(RefusedTest::makeFull).full();
        Dues.end();
    }

    /** Rows 0 and 3 of bytes, 1 of shorts, 2 of no ints; the others are missing; status is PLACE. */
    private static void makeRows(DreamGraves x) {
        x.row(0, 0, 3);
        x.set(0, 0, 1);
        x.set(0, 2, 1);
        x.row(1, 1, 2);
        x.set(1, 1, 1);
        x.row(2, 2, 0);
        x.row(3, 0, 2);
        x.set(3, 1, 1);
        Dues.due("status ahead", x.set(2, 0, 0), PLACE);
    }

    private static void makeWithoutYard(DreamGraves x) {
        makeRows(x);
        Dues.fed(x, "g9");
        x.yard();
        Dues.fed(x, "g1,1,2;");
    }

    /** Year 1: graves 0 and 2 are kept; sleeper 0 has a supper, 1 a fever; three acts; image 0; a law on the tape. */
    private static void makeTold(DreamGraves x) {
        makeRows(x);
        Dues.fed(x, "g9");
        x.yard();
        Dues.fed(x, TEXT);
        x.yard();
        x.image(0);
        x.years(1);
        x.supper(0);
        x.fever(1);
        x.ask(3, 1);
        Dues.fed(x, "g1,1,2;");
    }

    /** As told, in year 999 and with a full tape. */
    private static void makeFull(DreamGraves x) {
        makeTold(x);
        for (int i = 0; i < 41; i++) {
            x.years(24);
        }
        x.years(14);
        for (int i = x.count(7); i < 120; i++) {
            x.feed(' ');
        }
    }

    private void refused(String call, ToLongFunction<DreamGraves> refused, int due) {
        DreamGraves called = new DreamGraves();
        DreamGraves twin = new DreamGraves();
        made.accept(called);
        made.accept(twin);
        Dues.due(call, refused.applyAsLong(called), due);
        boolean finding = due <= NULL && due >= STORE;
        Dues.due("status() behind " + call, called.status(), finding ? -1000010 - due : twin.status());
        String was = Portrait.of(twin);
        String is = Portrait.of(called);
        if (!is.equals(was)) {
            System.out.println(call + ":\n" + was + "\n" + is);
        }
        Dues.holds(call + " changes nothing", is.equals(was));
    }

    private void rowCalls() {
        refused("row(-1, 0, 1)", x -> x.row(-1, 0, 1), BAD);
        refused("row(8, 0, 1)", x -> x.row(8, 0, 1), BAD);
        refused("row(0, -1, 1)", x -> x.row(0, -1, 1), BAD);
        refused("row(0, 3, 1)", x -> x.row(0, 3, 1), BAD);
        refused("row(0, 0, 41)", x -> x.row(0, 0, 41), BAD);
        refused("row(0, 0, MAX)", x -> x.row(0, 0, MAX), BAD);
        refused("row(8, 0, -1)", x -> x.row(8, 0, -1), BAD);
        refused("row(0, 3, -1)", x -> x.row(0, 3, -1), BAD);
        refused("row(0, 1, -1)", x -> x.row(0, 1, -1), SIZE);
        refused("row(7, 1, MIN)", x -> x.row(7, 1, MIN), SIZE);
        refused("set(-1, 0, 0)", x -> x.set(-1, 0, 0), BAD);
        refused("set(8, 0, 0)", x -> x.set(8, 0, 0), BAD);
        refused("set(4, 0, 0)", x -> x.set(4, 0, 0), NULL);
        refused("set(4, -1, 0)", x -> x.set(4, -1, 0), NULL);
        refused("set(0, -1, 0)", x -> x.set(0, -1, 0), PLACE);
        refused("set(0, 3, 1)", x -> x.set(0, 3, 1), PLACE);
        refused("set(2, 0, 1)", x -> x.set(2, 0, 1), PLACE);
        refused("set(0, MIN, 1)", x -> x.set(0, MIN, 1), PLACE);
        refused("set(0, MAX, 1)", x -> x.set(0, MAX, 1), PLACE);
        refused("drop(-1)", x -> x.drop(-1), BAD);
        refused("drop(8)", x -> x.drop(8), BAD);
        refused("drop(4)", x -> x.drop(4), NULL);
        copies();
    }

    private void copies() {
        refused("copy(-1, 0, 0, 0, 1)", x -> x.copy(-1, 0, 0, 0, 1), BAD);
        refused("copy(8, 0, 0, 0, 1)", x -> x.copy(8, 0, 0, 0, 1), BAD);
        refused("copy(0, 0, -1, 0, 1)", x -> x.copy(0, 0, -1, 0, 1), BAD);
        refused("copy(0, 0, 8, 0, 1)", x -> x.copy(0, 0, 8, 0, 1), BAD);
        refused("copy(4, 0, 8, 0, 1)", x -> x.copy(4, 0, 8, 0, 1), BAD);
        refused("copy(4, 0, 0, 0, 1)", x -> x.copy(4, 0, 0, 0, 1), NULL);
        refused("copy(0, 0, 4, 0, 1)", x -> x.copy(0, 0, 4, 0, 1), NULL);
        refused("copy(4, -1, 4, -1, -1)", x -> x.copy(4, -1, 4, -1, -1), NULL);
        refused("copy(0, 0, 1, 0, 1)", x -> x.copy(0, 0, 1, 0, 1), STORE);
        refused("copy(1, 0, 2, 0, 1)", x -> x.copy(1, 0, 2, 0, 1), STORE);
        refused("copy(0, -1, 1, -1, -1)", x -> x.copy(0, -1, 1, -1, -1), STORE);
        refused("copy(0, 0, 1, 0, 0)", x -> x.copy(0, 0, 1, 0, 0), STORE);
        refused("copy(0, -1, 3, 0, 1)", x -> x.copy(0, -1, 3, 0, 1), PLACE);
        refused("copy(0, 0, 3, -1, 1)", x -> x.copy(0, 0, 3, -1, 1), PLACE);
        refused("copy(0, 0, 3, 0, -1)", x -> x.copy(0, 0, 3, 0, -1), PLACE);
        refused("copy(0, 0, 3, 0, 3)", x -> x.copy(0, 0, 3, 0, 3), PLACE);
        refused("copy(3, 0, 0, 0, 3)", x -> x.copy(3, 0, 0, 0, 3), PLACE);
        refused("copy(0, 2, 3, 0, 2)", x -> x.copy(0, 2, 3, 0, 2), PLACE);
        refused("copy(0, 0, 3, 1, 2)", x -> x.copy(0, 0, 3, 1, 2), PLACE);
        refused("copy(0, 4, 3, 0, 0)", x -> x.copy(0, 4, 3, 0, 0), PLACE);
        refused("copy(0, 0, 3, 3, 0)", x -> x.copy(0, 0, 3, 3, 0), PLACE);
        refused("copy(0, MAX, 3, MAX, MAX)", x -> x.copy(0, MAX, 3, MAX, MAX), PLACE);
        refused("copy(0, 1, 3, 0, MAX)", x -> x.copy(0, 1, 3, 0, MAX), PLACE);
        refused("copy(0, MIN, 3, 0, MIN)", x -> x.copy(0, MIN, 3, 0, MIN), PLACE);
    }

    private void withoutYard() {
        refused("undo()", x -> x.undo(), STATE);
        refused("years(1)", x -> x.years(1), STATE);
        refused("years(0)", x -> x.years(0), STATE);
        refused("years(25)", x -> x.years(25), STATE);
        refused("supper(0)", x -> x.supper(0), BAD);
        refused("fever(0)", x -> x.fever(0), BAD);
        refused("tell(0, 0)", x -> x.tell(0, 0), BAD);
        refused("bury(0, 0)", x -> x.bury(0, 0), BAD);
        refused("sleeper(0, 0)", x -> x.sleeper(0, 0), BAD);
        refused("memory(0, 0)", x -> x.memory(0, 0), BAD);
        refused("grave(0, 0)", x -> x.grave(0, 0), STATE);
        refused("grave(-1, 2)", x -> x.grave(-1, 2), STATE);
        refused("ahead(0)", x -> x.ahead(0), STATE);
        refused("ahead(41)", x -> x.ahead(41), STATE);
        refused("dug(0)", x -> x.dug(0), STATE);
        refused("dug(-1)", x -> x.dug(-1), STATE);
        refused("firstDug()", x -> x.firstDug(), STATE);
        refused("suppers(0, 1, -1)", x -> x.suppers(0, 1, -1), STATE);
        refused("suppers(-1, 0, -2)", x -> x.suppers(-1, 0, -2), STATE);
        refused("bound(0)", x -> x.bound(0), STATE);
        refused("bound(6)", x -> x.bound(6), STATE);
        refused("forgets(0, 0)", x -> x.forgets(0, 0), BAD);
        refused("most(0, 0)", x -> x.most(0, 0), BAD);
        refused("pair(0, 1)", x -> x.pair(0, 1), BAD);
        refused("who(0, 0, 0, 1)", x -> x.who(0, 0, 0, 1), BAD);
        refused("whispered(0, 0, 0, 1)", x -> x.whispered(0, 0, 0, 1), STATE);
        refused("whispered(-1, 8, 0, 7)", x -> x.whispered(-1, 8, 0, 7), STATE);
        refused("whispered(0, 4, 0, 1)", x -> x.whispered(0, 4, 0, 1), STATE);
        refused("cheese(1)", x -> x.cheese(1), STATE);
        refused("cheese(0)", x -> x.cheese(0), STATE);
        refused("awake(0, 0, 0)", x -> x.awake(0, 0, 0), STATE);
        refused("awake(-1, 11, 2)", x -> x.awake(-1, 11, 2), STATE);
        refused("drawn(0, 1, 0)", x -> x.drawn(0, 1, 0), STATE);
        refused("drawn(-1, 0, 2)", x -> x.drawn(-1, 0, 2), STATE);
        refused("image(0)", x -> x.image(0), STATE);
        refused("image(-1)", x -> x.image(-1), BAD);
        refused("image(2)", x -> x.image(2), BAD);
        refused("restore(1)", x -> x.restore(1), STATE);
        refused("restore(2)", x -> x.restore(2), BAD);
        refused("kind(0)", x -> x.kind(0), BAD);
        refused("as(0, 0)", x -> x.as(0, 0), BAD);
        refused("ask(0, 0)", x -> x.ask(0, 0), BAD);
    }

    private void whatIsTold() {
        refused("feed(-1)", x -> x.feed(-1), BAD);
        refused("feed(256)", x -> x.feed(256), BAD);
        refused("feed(MIN)", x -> x.feed(MIN), BAD);
        refused("feed(MAX)", x -> x.feed(MAX), BAD);
    }

    private void whatIsDone() {
        refused("years(0)", x -> x.years(0), BAD);
        refused("years(-1)", x -> x.years(-1), BAD);
        refused("years(25)", x -> x.years(25), BAD);
        refused("years(MIN)", x -> x.years(MIN), BAD);
        refused("years(MAX)", x -> x.years(MAX), BAD);
        refused("supper(-1)", x -> x.supper(-1), BAD);
        refused("supper(4)", x -> x.supper(4), BAD);
        refused("supper(MAX)", x -> x.supper(MAX), BAD);
        refused("supper(0)", x -> x.supper(0), STATE);
        refused("fever(-1)", x -> x.fever(-1), BAD);
        refused("fever(4)", x -> x.fever(4), BAD);
        refused("fever(MIN)", x -> x.fever(MIN), BAD);
        refused("fever(1)", x -> x.fever(1), STATE);
        refused("tell(-1, 0)", x -> x.tell(-1, 0), BAD);
        refused("tell(4, 0)", x -> x.tell(4, 0), BAD);
        refused("tell(0, -1)", x -> x.tell(0, -1), BAD);
        refused("tell(0, 3)", x -> x.tell(0, 3), BAD);
        refused("tell(4, 1)", x -> x.tell(4, 1), BAD);
        refused("tell(0, 1)", x -> x.tell(0, 1), STATE);
        refused("bury(-1, 0)", x -> x.bury(-1, 0), BAD);
        refused("bury(3, 0)", x -> x.bury(3, 0), BAD);
        refused("bury(1, -1)", x -> x.bury(1, -1), BAD);
        refused("bury(1, 4)", x -> x.bury(1, 4), BAD);
        refused("bury(0, 4)", x -> x.bury(0, 4), BAD);
        refused("bury(0, 0)", x -> x.bury(0, 0), STATE);
        refused("bury(2, 3)", x -> x.bury(2, 3), STATE);
    }

    private void whatIsSeen() {
        refused("sleeper(-1, 0)", x -> x.sleeper(-1, 0), BAD);
        refused("sleeper(4, 0)", x -> x.sleeper(4, 0), BAD);
        refused("sleeper(0, -1)", x -> x.sleeper(0, -1), BAD);
        refused("sleeper(0, 4)", x -> x.sleeper(0, 4), BAD);
        refused("memory(-1, 0)", x -> x.memory(-1, 0), BAD);
        refused("memory(4, 0)", x -> x.memory(4, 0), BAD);
        refused("memory(0, -1)", x -> x.memory(0, -1), BAD);
        refused("memory(0, 3)", x -> x.memory(0, 3), BAD);
        refused("grave(-1, 0)", x -> x.grave(-1, 0), BAD);
        refused("grave(3, 0)", x -> x.grave(3, 0), BAD);
        refused("grave(0, -1)", x -> x.grave(0, -1), BAD);
        refused("grave(0, 2)", x -> x.grave(0, 2), BAD);
        refused("count(-1)", x -> x.count(-1), BAD);
        refused("count(8)", x -> x.count(8), BAD);
    }

    private void foretold() {
        refused("ahead(-1)", x -> x.ahead(-1), BAD);
        refused("ahead(41)", x -> x.ahead(41), BAD);
        refused("dug(-1)", x -> x.dug(-1), BAD);
        refused("dug(3)", x -> x.dug(3), BAD);
        refused("suppers(-1, 1, 0)", x -> x.suppers(-1, 1, 0), BAD);
        refused("suppers(8, 1, 0)", x -> x.suppers(8, 1, 0), BAD);
        refused("suppers(1, 0, 0)", x -> x.suppers(1, 0, 0), BAD);
        refused("suppers(1, 4, 0)", x -> x.suppers(1, 4, 0), BAD);
        refused("suppers(1, 1, -2)", x -> x.suppers(1, 1, -2), BAD);
        refused("bound(-1)", x -> x.bound(-1), BAD);
        refused("bound(3)", x -> x.bound(3), BAD);
        refused("forgets(-1, 0)", x -> x.forgets(-1, 0), BAD);
        refused("forgets(4, 0)", x -> x.forgets(4, 0), BAD);
        refused("forgets(0, -1)", x -> x.forgets(0, -1), BAD);
        refused("forgets(0, 3)", x -> x.forgets(0, 3), BAD);
        refused("most(-1, 0)", x -> x.most(-1, 0), BAD);
        refused("most(4, 0)", x -> x.most(4, 0), BAD);
        refused("most(0, -1)", x -> x.most(0, -1), BAD);
        refused("most(0, 2)", x -> x.most(0, 2), BAD);
        refused("pair(-1, 0)", x -> x.pair(-1, 0), BAD);
        refused("pair(0, 4)", x -> x.pair(0, 4), BAD);
        refused("pair(4, 0)", x -> x.pair(4, 0), BAD);
        refused("pair(2, 2)", x -> x.pair(2, 2), BAD);
        refused("cheese(0)", x -> x.cheese(0), BAD);
        refused("cheese(41)", x -> x.cheese(41), BAD);
        refused("awake(-1, 0, 0)", x -> x.awake(-1, 0, 0), BAD);
        refused("awake(3, 0, 0)", x -> x.awake(3, 0, 0), BAD);
        refused("awake(0, -1, 0)", x -> x.awake(0, -1, 0), BAD);
        refused("awake(0, 11, 0)", x -> x.awake(0, 11, 0), BAD);
        refused("awake(0, 0, -1)", x -> x.awake(0, 0, -1), BAD);
        refused("awake(0, 0, 2)", x -> x.awake(0, 0, 2), BAD);
        refused("drawn(-1, 1, 0)", x -> x.drawn(-1, 1, 0), BAD);
        refused("drawn(41, 1, 0)", x -> x.drawn(41, 1, 0), BAD);
        refused("drawn(1, 0, 0)", x -> x.drawn(1, 0, 0), BAD);
        refused("drawn(1, 1000000, 0)", x -> x.drawn(1, 1000000, 0), BAD);
        refused("drawn(1, 1, -1)", x -> x.drawn(1, 1, -1), BAD);
        refused("drawn(1, 1, 2)", x -> x.drawn(1, 1, 2), BAD);
        refused("image(-1)", x -> x.image(-1), BAD);
        refused("image(2)", x -> x.image(2), BAD);
        refused("restore(-1)", x -> x.restore(-1), BAD);
        refused("restore(2)", x -> x.restore(2), BAD);
        refused("restore(1)", x -> x.restore(1), STATE);
    }

    private void foretoldByRows() {
        refused("who(-1, 0, 0, 1)", x -> x.who(-1, 0, 0, 1), BAD);
        refused("who(4, 0, 0, 1)", x -> x.who(4, 0, 0, 1), BAD);
        refused("who(0, -1, 0, 1)", x -> x.who(0, -1, 0, 1), BAD);
        refused("who(0, 8, 0, 1)", x -> x.who(0, 8, 0, 1), BAD);
        refused("who(0, 4, 0, 0)", x -> x.who(0, 4, 0, 0), BAD);
        refused("who(0, 4, 0, 13)", x -> x.who(0, 4, 0, 13), BAD);
        refused("who(0, 4, -1, 1)", x -> x.who(0, 4, -1, 1), NULL);
        refused("who(0, 0, -1, 1)", x -> x.who(0, 0, -1, 1), PLACE);
        refused("who(0, 0, 3, 1)", x -> x.who(0, 0, 3, 1), PLACE);
        refused("who(0, 0, 0, 4)", x -> x.who(0, 0, 0, 4), PLACE);
        refused("who(0, 2, 0, 1)", x -> x.who(0, 2, 0, 1), PLACE);
        refused("who(0, 0, MAX, 12)", x -> x.who(0, 0, MAX, 12), PLACE);
        refused("who(0, 0, MIN, 1)", x -> x.who(0, 0, MIN, 1), PLACE);
        refused("whispered(-1, 0, 0, 1)", x -> x.whispered(-1, 0, 0, 1), BAD);
        refused("whispered(3, 0, 0, 1)", x -> x.whispered(3, 0, 0, 1), BAD);
        refused("whispered(0, -1, 0, 1)", x -> x.whispered(0, -1, 0, 1), BAD);
        refused("whispered(0, 8, 0, 1)", x -> x.whispered(0, 8, 0, 1), BAD);
        refused("whispered(0, 4, 0, 0)", x -> x.whispered(0, 4, 0, 0), BAD);
        refused("whispered(0, 4, 0, 7)", x -> x.whispered(0, 4, 0, 7), BAD);
        refused("whispered(0, 4, -1, 1)", x -> x.whispered(0, 4, -1, 1), NULL);
        refused("whispered(0, 0, -1, 1)", x -> x.whispered(0, 0, -1, 1), PLACE);
        refused("whispered(0, 0, 3, 1)", x -> x.whispered(0, 0, 3, 1), PLACE);
        refused("whispered(0, 0, 0, 4)", x -> x.whispered(0, 0, 0, 4), PLACE);
        refused("whispered(0, 0, MAX, 6)", x -> x.whispered(0, 0, MAX, 6), PLACE);
        refused("whispered(0, 0, MIN, 1)", x -> x.whispered(0, 0, MIN, 1), PLACE);
    }

    private void asked() {
        refused("kind(-1)", x -> x.kind(-1), BAD);
        refused("kind(4)", x -> x.kind(4), BAD);
        refused("as(-1, 0)", x -> x.as(-1, 0), BAD);
        refused("as(4, 0)", x -> x.as(4, 0), BAD);
        refused("as(0, -1)", x -> x.as(0, -1), BAD);
        refused("as(0, 6)", x -> x.as(0, 6), BAD);
        refused("as(0, 2)", x -> x.as(0, 2), KIND);
        refused("as(3, 1)", x -> x.as(3, 1), KIND);
        refused("ask(-1, 0)", x -> x.ask(-1, 0), BAD);
        refused("ask(4, 1)", x -> x.ask(4, 1), BAD);
        refused("ask(0, -1)", x -> x.ask(0, -1), BAD);
        refused("ask(0, 2)", x -> x.ask(0, 2), BAD);
    }

    private void full() {
        refused("years(1)", x -> x.years(1), FULL);
        refused("years(24)", x -> x.years(24), FULL);
        refused("years(25)", x -> x.years(25), BAD);
        refused("feed(0)", x -> x.feed(0), FULL);
        refused("feed(255)", x -> x.feed(255), FULL);
        refused("feed(256)", x -> x.feed(256), BAD);
    }
}
