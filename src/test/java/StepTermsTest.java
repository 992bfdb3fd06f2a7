/** What 'Terms' says of a step, sentence by sentence: wishes, grants, rounds and moves. */
public final class StepTermsTest {
    private static final Check CHECK = new Check();

    public static void main(String[] args) {
        CHECK.sentence("by how things are at its beginning", StepTermsTest::howThingsAreAtItsBeginning);
        CHECK.sentence("For each place but the outside", StepTermsTest::butTheOutside);
        CHECK.sentence("that has a door", StepTermsTest::thatHasADoor);
        CHECK.sentence("whose release time (0 at first) is t or less", StepTermsTest::releaseTime);
        CHECK.sentence("the wish is the number of its people, but at most the flow of its door",
            StepTermsTest::atMostTheFlow);
        CHECK.sentence("For each place, the wishes that lead to it are granted", StepTermsTest::eachPlaceForItself);
        CHECK.sentence("the outside grants all", StepTermsTest::outsideGrantsAll);
        CHECK.sentence("any other place grants as many persons as it has room left at the beginning of the step",
            StepTermsTest::asManyAsItHasRoom);
        CHECK.sentence("in each round the doors by which there are wishes to it are gone through by rising numbers",
            StepTermsTest::byRisingNumbers);
        CHECK.sentence("each is granted as many as its share", StepTermsTest::asManyAsItsShare);
        CHECK.sentence("but not more than are left of its wish", StepTermsTest::notMoreThanItsWish);
        CHECK.sentence("and of the room", StepTermsTest::notMoreThanTheRoom);
        CHECK.sentence("rounds go on until no wish or no room is left", StepTermsTest::roundsGoOn);
        CHECK.sentence("A door by which there are wishes from both sides cannot be.", StepTermsTest::notFromBothSides);
        CHECK.sentence("Then all who are granted move, and the time becomes t + 1.", StepTermsTest::timeBecomesMore);
        CHECK.sentence("are sent anew when a door is closed", StepTermsTest::sentAnew);
        CHECK.end();
    }

    /** A full place grants nothing though it empties in the step; who arrives in a step goes on in the next one. */
    private static void howThingsAreAtItsBeginning() {
        Stairflow x = new Stairflow();
        x.addPlace(3);
        x.addPlace(30);
        x.addDoor(2, 1, 9, 1);
        x.addDoor(1, 0, 9, 1);
        x.come(1, 3);
        x.come(2, 8);
        int[][] due = {{3, 0, 8}, {3, 3, 5}, {6, 0, 5}, {6, 3, 2}, {9, 0, 2}, {9, 2, 0}, {11, 0, 0}};
        for (int[] row : due) {
            x.step(1);
            for (int place = 0; place < 3; place++) {
                CHECK.equal("people(" + place + ") at " + x.now(), x.people(place), row[place]);
            }
        }
        Stairflow y = Benches.row(3, 9);
        y.come(3, 1);
        for (int at = 3; at > 0; at--) {
            CHECK.equal("people(" + at + ") at " + y.now(), y.people(at), 1);
            y.step(1);
        }
        CHECK.equal("people(0) at 3", y.people(0), 1);
    }

    private static void butTheOutside() {
        Stairflow x = Benches.oneRoom(9);
        x.come(1, 9);
        x.step(1);
        CHECK.equal("wouldMove(0) with 9 people there and a door", x.wouldMove(0), 0);
        CHECK.equal("step(50)", x.step(50), 0);
        CHECK.equal("people(0)", x.people(0), 9);
        x.come(1, 1);
        x.setRelease(0, 1000);
        CHECK.equal("step(1): the outside's release holds nobody back", x.step(1), 1);
    }

    private static void thatHasADoor() {
        Stairflow x = Benches.row(2, 9);
        x.come(1, 5);
        x.come(2, 5);
        x.setDoor(0, false);
        CHECK.equal("step(10)", x.step(10), 0);
        CHECK.equal("people(1)", x.people(1), 5);
        CHECK.equal("people(2), whose door leads to a place without a distance", x.people(2), 5);
        CHECK.equal("passed(0)", x.passed(0), 0);
        CHECK.equal("passed(1)", x.passed(1), 0);
    }

    private static void releaseTime() {
        Stairflow x = Benches.oneRoom(1);
        x.come(1, 10);
        CHECK.equal("step(1) at 0 with the release that is there at first", x.step(1), 1);
        int[][] due = {{1, 1}, {2, 1}, {4, 0}, {5, 0}, {4, 1}, {7, 0}, {7, 1}, {0, 1}};
        for (int[] row : due) {
            x.setRelease(1, row[0]);
            CHECK.equal("wouldMove(1) at " + x.now() + ", released at " + row[0], x.wouldMove(1), row[1]);
            CHECK.equal("step(1) at " + x.now() + ", released at " + row[0], x.step(1), row[1]);
        }
        x.setRelease(1, 1000);
        CHECK.equal("step(41) at 9, released at 1000", x.step(41), 0);
        for (int time = 50; time < 1000; time += 50) {
            CHECK.equal("step(50) at " + time + ", released at 1000", x.step(50), 0);
        }
        CHECK.equal("step(1) at 1000, released at 1000", x.step(1), 1);
    }

    private static void atMostTheFlow() {
        for (int people = 1; people <= 30; people++) {
            for (int flow : new int[] {1, 4, 9}) {
                Stairflow x = Benches.oneRoom(flow);
                CHECK.equal("wouldMove(1) of nobody", x.wouldMove(1), 0);
                x.come(1, people);
                CHECK.equal("wouldMove(1) of " + people + " by " + flow, x.wouldMove(1), Math.min(people, flow));
                CHECK.equal("step(1) of " + people + " by " + flow, x.step(1), Math.min(people, flow));
            }
        }
    }

    /** Two landings and the outside, whose doors' numbers alternate, grant in one step, each by its own room. */
    private static void eachPlaceForItself() {
        Stairflow x = new Stairflow();
        x.addPlace(4);
        x.addPlace(7);
        for (int i = 0; i < 4; i++) {
            x.addPlace(30);
        }
        x.addDoor(1, 0, 3, 1);
        for (int place = 3; place <= 6; place++) {
            x.addDoor(place, 1 + place % 2, 9, place - 2);
            x.come(place, 20);
        }
        x.addDoor(2, 0, 5, 1);
        x.come(1, 1);
        x.come(2, 2);
        int[] due = {0, 1, 2, 2, 2, 3, 1};
        for (int place = 0; place < 7; place++) {
            CHECK.equal("wouldMove(" + place + ")", x.wouldMove(place), due[place]);
        }
        CHECK.equal("step(1)", x.step(1), 3);
        int[] behind = {3, 3, 5, 18, 18, 17, 19};
        for (int place = 0; place < 7; place++) {
            CHECK.equal("people(" + place + ")", x.people(place), behind[place]);
        }
    }

    /** Ten doors with a share of 1 and a flow of 9: no share and no room counts at the outside. */
    private static void outsideGrantsAll() {
        Stairflow x = Benches.places(10);
        for (int place = 1; place <= 10; place++) {
            x.addDoor(0, place, 9, 1);
            x.come(place, 30);
        }
        CHECK.equal("step(1)", x.step(1), 90);
        CHECK.equal("wouldMove(10)", x.wouldMove(10), 9);
        CHECK.equal("step(2)", x.step(2), 180);
        CHECK.equal("step(1), with 3 left at each", x.step(1), 30);
    }

    /** Two wishes of 9 each; the row gives the room that is left, and what is granted in all. */
    private static void asManyAsItHasRoom() {
        int[][] due = {{0, 0}, {1, 1}, {2, 2}, {17, 17}, {18, 18}, {19, 18}, {30, 18}};
        for (int[] row : due) {
            Stairflow x = Benches.merging(30, 2, 3);
            x.setRelease(1, 1000);
            if (row[0] < 30) {
                x.come(1, 30 - row[0]);
            }
            x.come(2, 10);
            x.come(3, 10);
            CHECK.equal("granted with a room of " + row[0], x.wouldMove(2) + x.wouldMove(3), row[1]);
            x.step(1);
            CHECK.equal("people(1) with a room of " + row[0], x.people(1), 30 - row[0] + row[1]);
        }
    }

    /** The doors' numbers count, not the places': place 3 has the lowest door, then place 2, then place 4. */
    private static void byRisingNumbers() {
        int[][] due = {{1, 0, 1, 0}, {2, 1, 1, 0}, {3, 1, 1, 1}, {4, 1, 2, 1}, {5, 2, 2, 1}, {6, 2, 2, 2}};
        for (int[] row : due) {
            Stairflow x = new Stairflow();
            x.addPlace(row[0]);
            for (int i = 0; i < 3; i++) {
                x.addPlace(30);
            }
            x.addDoor(3, 1, 9, 1);
            x.addDoor(1, 2, 9, 1);
            x.addDoor(1, 0, 9, 1);
            x.addDoor(4, 1, 9, 1);
            x.come(2, 30);
            x.come(3, 30);
            x.come(4, 30);
            checkMoves(x, row);
        }
    }

    /** The doors to place 1 have the shares 1, 2, 3 and wishes of 9; the row gives the room and what is granted. */
    private static void asManyAsItsShare() {
        int[][] due = {
            {1, 1, 0, 0}, {2, 1, 1, 0}, {3, 1, 2, 0}, {4, 1, 2, 1}, {5, 1, 2, 2}, {6, 1, 2, 3}, {7, 2, 2, 3},
            {8, 2, 3, 3}, {9, 2, 4, 3}, {10, 2, 4, 4}, {12, 2, 4, 6}, {13, 3, 4, 6}, {18, 3, 6, 9},
        };
        for (int[] row : due) {
            Stairflow x = Benches.merging(row[0], 1, 2, 3);
            for (int place = 2; place <= 4; place++) {
                x.come(place, 20);
            }
            checkMoves(x, row);
        }
    }

    /** Shares of 5, 4 and 3 in a room of 10; the wish of the middle one goes from 1 to 5, behind its share. */
    private static void notMoreThanItsWish() {
        int[][] due = {{10, 6, 1, 3}, {10, 5, 2, 3}, {10, 5, 3, 2}, {10, 5, 4, 1}, {10, 5, 4, 1}};
        for (int wish = 1; wish <= 5; wish++) {
            Stairflow x = Benches.merging(10, 5, 4, 3);
            x.come(2, 20);
            x.come(3, wish);
            x.come(4, 20);
            checkMoves(x, due[wish - 1]);
        }
        Stairflow y = Benches.merging(30, 5, 4, 3);
        y.come(2, 6);
        y.come(4, 20);
        checkMoves(y, new int[] {30, 6, 0, 9});
        checkMoves(y, new int[] {30, 0, 0, 9});
        checkMoves(y, new int[] {30, 0, 0, 2});
    }

    /** The door that comes when less than its share is left of the room has the rest, the next ones nothing. */
    private static void notMoreThanTheRoom() {
        int[][] due = {{1, 1, 0, 0}, {4, 4, 0, 0}, {5, 5, 0, 0}, {6, 5, 1, 0}, {9, 5, 4, 0}, {10, 5, 5, 0},
            {11, 5, 5, 1}, {15, 5, 5, 5}, {16, 6, 5, 5}, {20, 9, 6, 5}};
        for (int[] row : due) {
            Stairflow x = Benches.merging(row[0], 5, 5, 5);
            for (int place = 2; place <= 4; place++) {
                x.come(place, 30);
            }
            checkMoves(x, row);
        }
    }

    /** Nine rounds of a share of 1, the most there can be; then rounds that end by the room, and by the wishes. */
    private static void roundsGoOn() {
        Stairflow x = Benches.merging(30, 1);
        x.come(2, 30);
        checkMoves(x, new int[] {30, 9});
        for (int[] row : new int[][] {{8, 8}, {9, 9}, {10, 9}}) {
            Stairflow y = Benches.merging(row[0], 1);
            y.come(2, 30);
            checkMoves(y, row);
        }
        int[][] due = {{19, 4, 6, 9}, {21, 4, 8, 9}, {22, 5, 8, 9}, {23, 5, 9, 9}, {26, 8, 9, 9}, {27, 9, 9, 9},
            {28, 9, 9, 9}, {30, 9, 9, 9}};
        for (int[] row : due) {
            Stairflow y = Benches.merging(row[0], 1, 2, 3);
            for (int place = 2; place <= 4; place++) {
                y.come(place, 20);
            }
            checkMoves(y, row);
        }
    }

    /** Two places at the same distance, with the lowest door between them, and two at distances that differ. */
    private static void notFromBothSides() {
        Stairflow x = Benches.places(2);
        x.addDoor(1, 2, 9, 5);
        x.addDoor(1, 0, 1, 1);
        x.addDoor(2, 0, 1, 1);
        x.come(1, 10);
        x.come(2, 20);
        CHECK.equal("step(5)", x.step(5), 10);
        CHECK.equal("passed(0), between places of the same distance", x.passed(0), 0);
        x.setDoor(2, false);
        x.step(1);
        CHECK.equal("passed(0), from 2 to 1 alone", x.passed(0), 9);
        CHECK.equal("people(2)", x.people(2), 6);
        CHECK.equal("wouldMove(1), by its door to the outside", x.wouldMove(1), 1);
    }

    private static void timeBecomesMore() {
        Stairflow x = Benches.row(2, 2);
        x.step(1);
        CHECK.equal("now() behind a step without people", x.now(), 1);
        x.come(2, 3);
        x.step(1);
        CHECK.equal("now() behind a step with a move", x.now(), 2);
        CHECK.equal("people(2)", x.people(2), 1);
        CHECK.equal("people(1)", x.people(1), 2);
        x.step(1);
        CHECK.equal("people(2), both doors at once", x.people(2), 0);
        CHECK.equal("people(1)", x.people(1), 1);
        CHECK.equal("people(0)", x.people(0), 2);
        x.setDoor(0, false);
        x.step(1);
        CHECK.equal("now() behind a step in which nobody can move", x.now(), 4);
    }

    private static void sentAnew() {
        Stairflow x = Benches.places(2);
        x.addDoor(1, 0, 2, 1);
        x.addDoor(1, 2, 3, 1);
        x.addDoor(2, 0, 1, 1);
        x.come(1, 10);
        CHECK.equal("step(1)", x.step(1), 2);
        x.setDoor(0, false);
        CHECK.equal("step(1), now by way of 2", x.step(1), 0);
        CHECK.equal("people(2)", x.people(2), 3);
        CHECK.equal("step(1)", x.step(1), 1);
        CHECK.equal("people(1)", x.people(1), 2);
        x.setDoor(0, true);
        x.setDoor(2, false);
        CHECK.equal("step(1), now back by way of 1", x.step(1), 2);
        CHECK.equal("people(1)", x.people(1), 3);
        CHECK.equal("people(2)", x.people(2), 2);
    }

    /** The row gives the room of place 1, then how many go there from the places 2, 3, ... in the next step. */
    private static void checkMoves(Stairflow x, int[] row) {
        int[] before = new int[row.length + 1];
        for (int place = 2; place <= row.length; place++) {
            before[place] = x.people(place);
            CHECK.equal("room " + row[0] + ": wouldMove(" + place + ")", x.wouldMove(place), row[place - 1]);
        }
        x.step(1);
        for (int place = 2; place <= row.length; place++) {
            CHECK.equal("room " + row[0] + ": gone from " + place, before[place] - x.people(place), row[place - 1]);
        }
    }
}
