/** Promise 21: the bound. */
public final class BoundTest {
    private static final Check CHECK = new Check();

    public static void main(String[] args) {
        nobodyInside();
        oneDoor();
        allDoorsBetweenTwoDistances();
        greatestOfAllDistances();
        emptyDistancesDoNotCount();
        releasesAndRoomsDoNotCount();
        somebodyTrapped();
        CHECK.end();
    }

    private static void nobodyInside() {
        Stairflow x = new Stairflow();
        CHECK.equal("bound()", x.bound(), 0);
        x.addPlace(30);
        CHECK.equal("bound() with an empty place that has no way", x.bound(), 0);
        x.addDoor(0, 1, 1, 1);
        x.come(1, 3);
        x.clear();
        CHECK.equal("bound() when all are outside", x.bound(), 0);
    }

    private static void oneDoor() {
        int[][] due = {{1, 1}, {3, 1}, {4, 1}, {5, 2}, {8, 2}, {9, 3}, {30, 8}};
        for (int[] row : due) {
            Stairflow x = new Stairflow();
            x.addPlace(30);
            x.addDoor(0, 1, 4, 1);
            x.come(1, row[0]);
            CHECK.equal(row[0] + " people: bound()", x.bound(), row[1]);
        }
    }

    private static void allDoorsBetweenTwoDistances() {
        Stairflow x = new Stairflow();
        x.addPlace(30);
        x.addPlace(30);
        x.addDoor(0, 1, 1, 1);
        x.come(1, 30);
        CHECK.equal("bound() by one door", x.bound(), 30);
        x.addDoor(1, 0, 2, 1);
        CHECK.equal("bound() by two doors of the same place", x.bound(), 10);
        x.addDoor(2, 0, 3, 1);
        CHECK.equal("bound() by three doors", x.bound(), 5);
        x.addDoor(2, 1, 9, 1);
        CHECK.equal("bound(): a door within a distance adds nothing", x.bound(), 5);
        x.setDoor(1, false);
        CHECK.equal("bound() with a door closed", x.bound(), 8);
    }

    private static void greatestOfAllDistances() {
        Stairflow x = new Stairflow();
        for (int i = 0; i < 3; i++) {
            x.addPlace(30);
        }
        x.addDoor(1, 0, 9, 1);
        x.addDoor(2, 1, 2, 1);
        x.addDoor(3, 2, 9, 1);
        x.come(3, 9);
        CHECK.equal("bound() of the middle", x.bound(), 1 + 5);
        x.come(2, 2);
        CHECK.equal("bound() of the middle", x.bound(), 1 + 6);
        x.come(1, 30);
        CHECK.equal("bound() of the middle", x.bound(), 1 + 6);
        x.setDoor(1, false);
        x.addDoor(1, 2, 9, 1);
        CHECK.equal("bound() of the outermost", x.bound(), 5);
        x.step(50);
        x.come(3, 1);
        CHECK.equal("bound() of the innermost", x.bound(), 3);
    }

    private static void emptyDistancesDoNotCount() {
        Stairflow x = new Stairflow();
        for (int place = 1; place <= 10; place++) {
            x.addPlace(30);
            x.addDoor(place, place - 1, 9, 1);
        }
        CHECK.equal("bound() with nobody inside, ten distances", x.bound(), 0);
        x.come(2, 1);
        CHECK.equal("bound() of one person at the distance 2", x.bound(), 2);
        x.come(10, 10);
        CHECK.equal("bound() of the greatest distance there can be", x.bound(), 9 + 2);
    }

    private static void releasesAndRoomsDoNotCount() {
        Stairflow x = new Stairflow();
        x.addPlace(1);
        x.addPlace(30);
        x.addDoor(1, 0, 9, 1);
        x.addDoor(2, 1, 9, 1);
        x.come(2, 18);
        x.setRelease(2, 1000);
        CHECK.equal("bound()", x.bound(), 3);
    }

    private static void somebodyTrapped() {
        Stairflow x = new Stairflow();
        x.addPlace(30);
        x.addPlace(30);
        x.addDoor(0, 1, 1, 1);
        x.come(1, 3);
        CHECK.equal("bound() with an empty place without a way", x.bound(), 3);
        x.come(2, 1);
        CHECK.refuses(x, IllegalStateException.class, "bound()", x::bound);
        x.addDoor(1, 2, 1, 1);
        CHECK.equal("bound()", x.bound(), 4);
        x.setDoor(0, false);
        CHECK.refuses(x, IllegalStateException.class, "bound()", x::bound);
    }
}
