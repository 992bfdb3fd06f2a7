import java.util.NoSuchElementException;

/** Promises 12 to 16: people, inside, latest, passed, waited. */
public final class PeopleTest {
    private static final Check CHECK = new Check();

    public static void main(String[] args) {
        peopleAndInside();
        latest();
        passed();
        waited();
        CHECK.end();
    }

    /** Place 1 leads to the outside by door 0, and place 2 to place 1 by door 1. */
    private static Stairflow chain(int outerFlow, int innerFlow) {
        Stairflow x = new Stairflow();
        x.addPlace(30);
        x.addPlace(30);
        x.addDoor(1, 0, outerFlow, 1);
        x.addDoor(2, 1, innerFlow, 1);
        return x;
    }

    private static void peopleAndInside() {
        Stairflow x = chain(2, 3);
        x.come(2, 7);
        x.come(1, 1);
        for (int place : new int[] {-1, 3, Integer.MIN_VALUE, Integer.MAX_VALUE}) {
            CHECK.refuses(x, IndexOutOfBoundsException.class, "people(" + place + ")", () -> x.people(place));
        }
        int[][] due = {{0, 1, 7}, {1, 3, 4}, {3, 4, 1}, {5, 3, 0}, {7, 1, 0}, {8, 0, 0}, {8, 0, 0}};
        for (int[] row : due) {
            for (int place = 0; place < 3; place++) {
                CHECK.equal("at " + x.now() + ": people(" + place + ")", x.people(place), row[place]);
            }
            CHECK.equal("at " + x.now() + ": inside()", x.inside(), row[1] + row[2]);
            x.step(1);
        }
    }

    private static void latest() {
        Stairflow x = chain(2, 3);
        CHECK.refuses(x, NoSuchElementException.class, "latest()", x::latest);
        x.come(2, 3);
        x.step(1);
        CHECK.refuses(x, NoSuchElementException.class, "latest()", x::latest);
        x.step(1);
        CHECK.equal("latest()", x.latest(), 2);
        x.step(1);
        CHECK.equal("latest()", x.latest(), 3);
        x.step(50);
        CHECK.equal("latest()", x.latest(), 3);
        x.come(1, 1);
        x.step(50);
        CHECK.equal("latest()", x.latest(), 54);
        CHECK.equal("now()", x.now(), 103);
    }

    private static void passed() {
        Stairflow x = chain(2, 3);
        x.come(2, 8);
        for (int door : new int[] {-1, 2, Integer.MIN_VALUE, Integer.MAX_VALUE}) {
            CHECK.refuses(x, IndexOutOfBoundsException.class, "passed(" + door + ")", () -> x.passed(door));
        }
        CHECK.equal("passed(1)", x.passed(1), 0);
        x.step(1);
        CHECK.equal("passed(1)", x.passed(1), 3);
        CHECK.equal("passed(0)", x.passed(0), 0);
        x.step(1);
        CHECK.equal("passed(1)", x.passed(1), 6);
        CHECK.equal("passed(0)", x.passed(0), 2);
        x.setDoor(0, false);
        x.addDoor(0, 2, 1, 1);
        x.step(1);
        CHECK.equal("passed(1), back again", x.passed(1), 9);
        CHECK.equal("passed(2)", x.passed(2), 1);
        CHECK.equal("passed(0), closed", x.passed(0), 2);
    }

    private static void waited() {
        Stairflow x = chain(2, 3);
        CHECK.equal("step(5) with nobody inside", x.step(5), 0);
        CHECK.equal("waited()", x.waited(), 0);
        x.come(1, 5);
        CHECK.equal("waited()", x.waited(), 0);
        x.step(1);
        CHECK.equal("waited()", x.waited(), 3);
        x.step(1);
        CHECK.equal("waited()", x.waited(), 4);
        x.step(1);
        CHECK.equal("waited()", x.waited(), 4);
        x.come(2, 4);
        x.clear();
        CHECK.equal("waited(), the steps of clear too", x.waited(), 4 + 4 + 2 + 0);
        x.setDoor(1, false);
        x.come(2, 4);
        x.step(50);
        CHECK.equal("waited(), with the trapped ones", x.waited(), 10 + 200);
    }
}
