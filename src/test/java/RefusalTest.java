import java.util.List;
import java.util.NoSuchElementException;
import java.util.function.Consumer;
import java.util.function.Supplier;

/** What 'Terms' says of exceptions: a refused call changes nothing, and the first documented exception is thrown. */
public final class RefusalTest {
    private static final Check CHECK = new Check();
    private static final Class<IndexOutOfBoundsException> INDEX = IndexOutOfBoundsException.class;
    private static final Class<IllegalArgumentException> ARGUMENT = IllegalArgumentException.class;
    private static final Class<IllegalStateException> STATE = IllegalStateException.class;
    private static final Class<NoSuchElementException> ELEMENT = NoSuchElementException.class;

    public static void main(String[] args) {
        CHECK.sentence("A method that throws an exception changes nothing.", RefusalTest::changesNothing);
        CHECK.sentence("A method that throws an exception changes nothing. (a new bench)",
            RefusalTest::changesNothingOnANewBench);
        CHECK.sentence("A method that throws an exception changes nothing. (a full bench)",
            RefusalTest::changesNothingOnAFullBench);
        CHECK.sentence("If several exceptions apply, the one that is documented first is thrown. (addPlace)",
            RefusalTest::firstOfAddPlace);
        CHECK.sentence("If several exceptions apply, the one that is documented first is thrown. (addDoor)",
            RefusalTest::firstOfAddDoor);
        CHECK.sentence("If several exceptions apply, the one that is documented first is thrown. (come)",
            RefusalTest::firstOfCome);
        CHECK.sentence("If several exceptions apply, the one that is documented first is thrown. (setRelease)",
            RefusalTest::firstOfSetRelease);
        CHECK.end();
    }

    private static void changesNothing() {
        busy(ARGUMENT, "addPlace(0)", x -> x.addPlace(0));
        busy(ARGUMENT, "addPlace(31)", x -> x.addPlace(31));
        busy(INDEX, "addDoor(-1, 1, 1, 1)", x -> x.addDoor(-1, 1, 1, 1));
        busy(INDEX, "addDoor(1, 5, 1, 1)", x -> x.addDoor(1, 5, 1, 1));
        busy(ARGUMENT, "addDoor(3, 3, 1, 1)", x -> x.addDoor(3, 3, 1, 1));
        busy(ARGUMENT, "addDoor(3, 0, 0, 1)", x -> x.addDoor(3, 0, 0, 1));
        busy(ARGUMENT, "addDoor(3, 0, 10, 1)", x -> x.addDoor(3, 0, 10, 1));
        busy(ARGUMENT, "addDoor(3, 0, 1, 0)", x -> x.addDoor(3, 0, 1, 0));
        busy(ARGUMENT, "addDoor(3, 0, 1, 6)", x -> x.addDoor(3, 0, 1, 6));
        busy(INDEX, "setDoor(-1, false)", x -> x.setDoor(-1, false));
        busy(INDEX, "setDoor(5, false)", x -> x.setDoor(5, false));
        busy(INDEX, "come(-1, 1)", x -> x.come(-1, 1));
        busy(INDEX, "come(5, 1)", x -> x.come(5, 1));
        busy(ARGUMENT, "come(0, 1)", x -> x.come(0, 1));
        busy(ARGUMENT, "come(1, 0)", x -> x.come(1, 0));
        busy(ARGUMENT, "come(1, -1)", x -> x.come(1, -1));
        busy(ARGUMENT, "come(2, 31)", x -> x.come(2, 31));
        busy(STATE, "come(2, 30)", x -> x.come(2, 30));
        busy(INDEX, "setRelease(-1, 9)", x -> x.setRelease(-1, 9));
        busy(INDEX, "setRelease(5, 9)", x -> x.setRelease(5, 9));
        busy(ARGUMENT, "setRelease(2, -1)", x -> x.setRelease(2, -1));
        busy(ARGUMENT, "setRelease(2, 1001)", x -> x.setRelease(2, 1001));
        busy(ARGUMENT, "step(0)", x -> x.step(0));
        busy(ARGUMENT, "step(51)", x -> x.step(51));
        busy(INDEX, "people(5)", x -> x.people(5));
        busy(INDEX, "passed(5)", x -> x.passed(5));
        busy(INDEX, "distance(5)", x -> x.distance(5));
        busy(INDEX, "door(5)", x -> x.door(5));
        busy(ELEMENT, "door(0)", x -> x.door(0));
        busy(INDEX, "wouldMove(5)", x -> x.wouldMove(5));
        refused(RefusalTest::trapped, STATE, "bound()", Stairflow::bound);
        refused(RefusalTest::trapped, ELEMENT, "distance(3)", x -> x.distance(3));
        refused(RefusalTest::trapped, ELEMENT, "door(3)", x -> x.door(3));
    }

    private static void changesNothingOnANewBench() {
        Supplier<Stairflow> made = () -> Benches.places(1);
        refused(made, ELEMENT, "latest()", Stairflow::latest);
        refused(made, INDEX, "passed(0)", x -> x.passed(0));
        refused(made, INDEX, "setDoor(0, true)", x -> x.setDoor(0, true));
        refused(made, INDEX, "addDoor(1, 2, 1, 1)", x -> x.addDoor(1, 2, 1, 1));
        refused(made, ELEMENT, "distance(1)", x -> x.distance(1));
        refused(made, ELEMENT, "door(1)", x -> x.door(1));
    }

    private static void changesNothingOnAFullBench() {
        refused(Benches::withAllPlaces, STATE, "addPlace(5)", x -> x.addPlace(5));
        refused(Benches::withAllPlaces, INDEX, "come(11, 1)", x -> x.come(11, 1));
        refused(Benches::withAllPlaces, INDEX, "setRelease(11, 9)", x -> x.setRelease(11, 9));
        refused(Benches::withAllPlaces, INDEX, "addDoor(11, 0, 1, 1)", x -> x.addDoor(11, 0, 1, 1));
        refused(Benches::withAllDoors, STATE, "addDoor(1, 0, 9, 5)", x -> x.addDoor(1, 0, 9, 5));
        refused(Benches::withAllDoors, INDEX, "setDoor(16, false)", x -> x.setDoor(16, false));
        refused(Benches::withAllDoors, INDEX, "passed(16)", x -> x.passed(16));
        refused(RefusalTest::withFullRoom, STATE, "come(1, 1)", x -> x.come(1, 1));
    }

    private static void firstOfAddPlace() {
        for (int room : new int[] {0, 31, Integer.MIN_VALUE, Integer.MAX_VALUE}) {
            refused(Benches::withAllPlaces, ARGUMENT, "addPlace(" + room + ") as an eleventh place",
                x -> x.addPlace(room));
        }
    }

    private static void firstOfAddDoor() {
        List<Supplier<Stairflow>> benches = List.of(Benches::busy, Benches::withAllDoors);
        for (Supplier<Stairflow> made : benches) {
            refused(made, INDEX, "addDoor(7, 7, 1, 1)", x -> x.addDoor(7, 7, 1, 1));
            refused(made, INDEX, "addDoor(-1, -1, 0, 0)", x -> x.addDoor(-1, -1, 0, 0));
            refused(made, INDEX, "addDoor(-1, 1, 0, 1)", x -> x.addDoor(-1, 1, 0, 1));
            refused(made, INDEX, "addDoor(7, 1, 1, 6)", x -> x.addDoor(7, 1, 1, 6));
            refused(made, INDEX, "addDoor(1, -1, 10, 1)", x -> x.addDoor(1, -1, 10, 1));
            refused(made, INDEX, "addDoor(1, 7, 1, 0)", x -> x.addDoor(1, 7, 1, 0));
            refused(made, ARGUMENT, "addDoor(1, 1, 0, 6)", x -> x.addDoor(1, 1, 0, 6));
        }
        refused(Benches::withAllDoors, INDEX, "addDoor(-1, 1, 1, 1) with 16 doors", x -> x.addDoor(-1, 1, 1, 1));
        refused(Benches::withAllDoors, INDEX, "addDoor(1, 7, 1, 1) with 16 doors", x -> x.addDoor(1, 7, 1, 1));
        refused(Benches::withAllDoors, ARGUMENT, "addDoor(1, 1, 1, 1) with 16 doors", x -> x.addDoor(1, 1, 1, 1));
        refused(Benches::withAllDoors, ARGUMENT, "addDoor(0, 1, 0, 1) with 16 doors", x -> x.addDoor(0, 1, 0, 1));
        refused(Benches::withAllDoors, ARGUMENT, "addDoor(0, 1, 10, 1) with 16 doors", x -> x.addDoor(0, 1, 10, 1));
        refused(Benches::withAllDoors, ARGUMENT, "addDoor(0, 1, 1, 0) with 16 doors", x -> x.addDoor(0, 1, 1, 0));
        refused(Benches::withAllDoors, ARGUMENT, "addDoor(0, 1, 1, 6) with 16 doors", x -> x.addDoor(0, 1, 1, 6));
    }

    private static void firstOfCome() {
        for (int people : new int[] {0, -1, 31, Integer.MIN_VALUE, Integer.MAX_VALUE}) {
            refused(Benches::busy, INDEX, "come(-1, " + people + ")", x -> x.come(-1, people));
            refused(Benches::busy, INDEX, "come(5, " + people + ")", x -> x.come(5, people));
            refused(RefusalTest::withFullRoom, ARGUMENT, "come(1, " + people + ") into a full room",
                x -> x.come(1, people));
        }
        refused(RefusalTest::withFullRoom, ARGUMENT, "come(0, 30)", x -> x.come(0, 30));
        refused(RefusalTest::withFullRoom, INDEX, "come(2, 30)", x -> x.come(2, 30));
    }

    private static void firstOfSetRelease() {
        for (int time : new int[] {-1, 1001, Integer.MIN_VALUE, Integer.MAX_VALUE}) {
            refused(Benches::busy, INDEX, "setRelease(-1, " + time + ")", x -> x.setRelease(-1, time));
            refused(Benches::busy, INDEX, "setRelease(5, " + time + ")", x -> x.setRelease(5, time));
        }
    }

    /** The busy bench with the way of place 3 closed, where people are. */
    private static Stairflow trapped() {
        Stairflow x = Benches.busy();
        x.setDoor(2, false);
        x.setDoor(3, false);
        return x;
    }

    private static Stairflow withFullRoom() {
        Stairflow x = new Stairflow();
        x.addPlace(2);
        x.addDoor(1, 0, 1, 1);
        x.come(1, 2);
        return x;
    }

    private static void busy(Class<? extends RuntimeException> due, String call, Consumer<Stairflow> refused) {
        refused(Benches::busy, due, call, refused);
    }

    private static void refused(Supplier<Stairflow> made, Class<? extends RuntimeException> due, String call,
            Consumer<Stairflow> refused) {
        CHECK.refuses(made, due, call, refused);
    }
}
