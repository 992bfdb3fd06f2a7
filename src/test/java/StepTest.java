/** Promises 9 to 11, and what the terms say of a step: wishes, releases, rooms, shares and rounds. */
public final class StepTest {
    private static final Check CHECK = new Check();

    public static void main(String[] args) {
        stepRange();
        flowLimitsTheWish();
        releaseHoldsBack();
        roomIsThatOfTheBeginning();
        sharesAndRounds();
        outsideGrantsAll();
        outsideIsNotLimitedByAnyRoom();
        othersTakeWhatAShortWishLeaves();
        closedDoorSendsAnew();
        closedDoorStopsAll();
        clearToTheEnd();
        clearWhenNobodyIsInside();
        clearWaitsForAllReleases();
        clearWaitsForTheOutsidesRelease();
        clearAtMost300();
        clearGoesOnWhileSomebodyMoves();
        CHECK.end();
    }

    /** A bench with one place, and one door from it to the outside. */
    private static Stairflow oneRoom(int flow) {
        Stairflow x = new Stairflow();
        x.addPlace(30);
        x.addDoor(1, 0, flow, 1);
        return x;
    }

    private static void stepRange() {
        Stairflow x = oneRoom(1);
        x.come(1, 30);
        for (int steps : new int[] {0, -1, 51, Integer.MIN_VALUE, Integer.MAX_VALUE}) {
            CHECK.refuses(x, IllegalArgumentException.class, "step(" + steps + ")", () -> x.step(steps));
        }
        CHECK.equal("step(1)", x.step(1), 1);
        CHECK.equal("now()", x.now(), 1);
        CHECK.equal("step(3)", x.step(3), 3);
        CHECK.equal("now()", x.now(), 4);
        CHECK.equal("step(50)", x.step(50), 26);
        CHECK.equal("now()", x.now(), 54);
        CHECK.equal("step(50) with nobody inside", x.step(50), 0);
        CHECK.equal("now()", x.now(), 104);
    }

    private static void flowLimitsTheWish() {
        Stairflow x = oneRoom(4);
        x.come(1, 10);
        CHECK.equal("step(1)", x.step(1), 4);
        CHECK.equal("step(1)", x.step(1), 4);
        CHECK.equal("step(1)", x.step(1), 2);
        CHECK.equal("step(1)", x.step(1), 0);
    }

    private static void releaseHoldsBack() {
        Stairflow x = oneRoom(1);
        x.come(1, 2);
        x.setRelease(1, 2);
        CHECK.equal("step(1) at 0", x.step(1), 0);
        CHECK.equal("step(1) at 1", x.step(1), 0);
        CHECK.equal("step(1) at 2, the release time", x.step(1), 1);
        x.setRelease(1, 4);
        CHECK.equal("step(1) at 3", x.step(1), 0);
        CHECK.equal("step(1) at 4", x.step(1), 1);
    }

    private static void roomIsThatOfTheBeginning() {
        Stairflow x = new Stairflow();
        x.addPlace(3);
        x.addPlace(30);
        x.addDoor(1, 0, 9, 1);
        x.addDoor(2, 1, 9, 1);
        x.come(1, 3);
        x.come(2, 8);
        CHECK.equal("step(1): place 1 is full at its beginning", x.step(1), 3);
        CHECK.equal("people(2)", x.people(2), 8);
        CHECK.equal("people(1)", x.people(1), 0);
        CHECK.equal("step(1)", x.step(1), 0);
        CHECK.equal("people(1)", x.people(1), 3);
        CHECK.equal("people(2)", x.people(2), 5);
    }

    /** Places 2, 3, 4 lead to place 1, by the doors 1, 2, 3 with the shares 1, 2, 3. */
    private static Stairflow merging(int room) {
        Stairflow x = new Stairflow();
        x.addPlace(room);
        x.addDoor(1, 0, 9, 1);
        for (int share = 1; share <= 3; share++) {
            int place = x.addPlace(30);
            x.addDoor(place, 1, 9, share);
        }
        return x;
    }

    private static void sharesAndRounds() {
        int[][] due = {
            {1, 1, 0, 0}, {2, 1, 1, 0}, {3, 1, 2, 0}, {5, 1, 2, 2}, {6, 1, 2, 3}, {7, 2, 2, 3}, {8, 2, 3, 3},
            {9, 2, 4, 3}, {12, 2, 4, 6}, {18, 3, 6, 9}, {19, 4, 6, 9}, {21, 4, 8, 9}, {22, 5, 8, 9},
            {23, 5, 9, 9}, {24, 6, 9, 9}, {27, 9, 9, 9}, {30, 9, 9, 9},
        };
        for (int[] row : due) {
            Stairflow x = merging(row[0]);
            for (int place = 2; place <= 4; place++) {
                x.come(place, 20);
            }
            for (int place = 2; place <= 4; place++) {
                CHECK.equal("room " + row[0] + ": wouldMove(" + place + ")", x.wouldMove(place), row[place - 1]);
            }
            x.step(1);
            for (int place = 2; place <= 4; place++) {
                CHECK.equal("room " + row[0] + ": people(" + place + ")", x.people(place), 20 - row[place - 1]);
            }
            CHECK.equal("room " + row[0] + ": people(1)", x.people(1), row[1] + row[2] + row[3]);
        }
    }

    private static void othersTakeWhatAShortWishLeaves() {
        Stairflow x = merging(10);
        x.come(2, 20);
        x.come(3, 1);
        x.come(4, 20);
        CHECK.equal("wouldMove(2)", x.wouldMove(2), 3);
        CHECK.equal("wouldMove(3)", x.wouldMove(3), 1);
        CHECK.equal("wouldMove(4)", x.wouldMove(4), 6);
        x.setRelease(4, 1);
        CHECK.equal("wouldMove(2)", x.wouldMove(2), 9);
        CHECK.equal("wouldMove(3)", x.wouldMove(3), 1);
        CHECK.equal("wouldMove(4)", x.wouldMove(4), 0);
    }

    private static void outsideGrantsAll() {
        Stairflow x = new Stairflow();
        for (int i = 0; i < 10; i++) {
            int place = x.addPlace(30);
            x.addDoor(0, place, 9, 1);
            x.come(place, 30);
        }
        CHECK.equal("step(1)", x.step(1), 90);
        CHECK.equal("step(2)", x.step(2), 180);
        CHECK.equal("step(1)", x.step(1), 30);
    }

    private static void outsideIsNotLimitedByAnyRoom() {
        Stairflow x = oneRoom(9);
        for (int i = 1; i <= 100; i++) {
            x.come(1, 30);
            CHECK.equal("step(4)", x.step(4), 30);
            CHECK.equal("people(0)", x.people(0), 30 * i);
        }
    }

    private static void closedDoorSendsAnew() {
        Stairflow x = new Stairflow();
        x.addPlace(30);
        x.addPlace(30);
        x.addDoor(1, 0, 2, 1);
        x.addDoor(1, 2, 3, 1);
        x.addDoor(2, 0, 1, 1);
        x.come(1, 10);
        CHECK.equal("step(1)", x.step(1), 2);
        x.setDoor(0, false);
        CHECK.equal("step(1)", x.step(1), 0);
        CHECK.equal("people(2)", x.people(2), 3);
        CHECK.equal("step(1)", x.step(1), 1);
        CHECK.equal("people(1)", x.people(1), 2);
        x.setDoor(0, true);
        x.setDoor(2, false);
        CHECK.equal("step(1)", x.step(1), 2);
        CHECK.equal("people(1)", x.people(1), 3);
        CHECK.equal("people(2)", x.people(2), 2);
        CHECK.equal("passed(1), either way", x.passed(1), 9);
    }

    private static void closedDoorStopsAll() {
        Stairflow x = oneRoom(9);
        x.come(1, 5);
        x.setDoor(0, false);
        CHECK.equal("step(10)", x.step(10), 0);
        CHECK.equal("people(1)", x.people(1), 5);
        CHECK.equal("passed(0)", x.passed(0), 0);
    }

    private static void clearToTheEnd() {
        Stairflow x = oneRoom(4);
        x.come(1, 10);
        CHECK.equal("clear()", x.clear(), 3);
        CHECK.equal("now()", x.now(), 3);
        CHECK.equal("inside()", x.inside(), 0);
        x.come(1, 4);
        CHECK.equal("clear()", x.clear(), 1);
        CHECK.equal("now()", x.now(), 4);
    }

    private static void clearWhenNobodyIsInside() {
        Stairflow x = oneRoom(4);
        x.setRelease(1, 100);
        CHECK.equal("clear()", x.clear(), 0);
        CHECK.equal("now()", x.now(), 0);
    }

    private static void clearWaitsForAllReleases() {
        Stairflow x = oneRoom(4);
        x.addPlace(5);
        x.addPlace(5);
        x.come(2, 5);
        CHECK.equal("clear() with all released", x.clear(), 1);
        x.setRelease(3, 10);
        CHECK.equal("clear() with an empty place released at 10", x.clear(), 10);
        CHECK.equal("now(): behind the step at 10", x.now(), 11);
        x.come(1, 9);
        x.setRelease(1, 20);
        CHECK.equal("clear()", x.clear(), 13);
        CHECK.equal("now(): behind the step at 23, the first without a move", x.now(), 24);
        CHECK.equal("latest()", x.latest(), 23);
        CHECK.equal("inside()", x.inside(), 5);
    }

    private static void clearWaitsForTheOutsidesRelease() {
        Stairflow x = oneRoom(4);
        x.addPlace(5);
        x.come(2, 5);
        x.setRelease(0, 7);
        CHECK.equal("clear() with the outside released at 7", x.clear(), 8);
        x.come(1, 4);
        x.setRelease(0, 1000);
        CHECK.equal("step(1): the outside's release holds nobody back", x.step(1), 4);
    }

    private static void clearAtMost300() {
        Stairflow x = oneRoom(9);
        x.come(1, 30);
        x.setRelease(1, 1000);
        for (int i = 1; i <= 3; i++) {
            CHECK.equal("clear()", x.clear(), 300);
            CHECK.equal("now()", x.now(), 300 * i);
        }
        CHECK.equal("clear()", x.clear(), 104);
        CHECK.equal("now()", x.now(), 1004);
    }

    private static void clearGoesOnWhileSomebodyMoves() {
        Stairflow x = oneRoom(1);
        x.addPlace(30);
        x.addPlace(9);
        x.addDoor(1, 2, 1, 1);
        x.come(1, 30);
        x.come(2, 30);
        x.come(3, 9);
        CHECK.equal("clear()", x.clear(), 61);
        CHECK.equal("people(0)", x.people(0), 60);
        CHECK.equal("latest()", x.latest(), 60);
    }
}
