import java.util.NoSuchElementException;

/** A bench for evacuations: people leave rooms, landings and stairs by doors, step by step. */
public final class Stairflow {
    private static final int NONE = -1;
    private static final int OUTSIDE = 0;

    private static final int MOST_PLACES = 11;
    private static final int MOST_DOORS = 16;
    private static final int MOST_ROOM = 30;
    private static final int MOST_COMING = 30;
    private static final int MOST_FLOW = 9;
    private static final int MOST_SHARE = 5;
    private static final int MOST_RELEASE = 1000;
    private static final int MOST_STEPS = 50;
    private static final int MOST_STEPS_TO_CLEAR = 300;
    // Far more than can wish to leave in one step.
    private static final int ROOM_FOR_ALL = 1000000;

    private int placeCount;
    private final int[] roomOf;
    private final int[] peopleAt;
    private final int[] releaseOf;
    private final int[] distanceOf;
    private final int[] doorOf;

    private int doorCount;
    private final int[] oneEnd;
    private final int[] otherEnd;
    private final int[] flowOf;
    private final int[] shareOf;
    private final boolean[] isOpen;
    private final int[] passedBy;

    // A door is the way out of at most one place, so its source and target are kept with the door.
    private final int[] sourceOf;
    private final int[] targetOf;
    private final int[] grantedTo;

    private int timeNow;
    private int latestTime;
    private int waitedSum;

    public Stairflow() {
        roomOf = new int[MOST_PLACES];
        peopleAt = new int[MOST_PLACES];
        releaseOf = new int[MOST_PLACES];
        distanceOf = new int[MOST_PLACES];
        doorOf = new int[MOST_PLACES];
        oneEnd = new int[MOST_DOORS];
        otherEnd = new int[MOST_DOORS];
        flowOf = new int[MOST_DOORS];
        shareOf = new int[MOST_DOORS];
        isOpen = new boolean[MOST_DOORS];
        passedBy = new int[MOST_DOORS];
        sourceOf = new int[MOST_DOORS];
        targetOf = new int[MOST_DOORS];
        grantedTo = new int[MOST_DOORS];
        placeCount = 1;
        latestTime = NONE;
        doorOf[OUTSIDE] = NONE;
    }

    // ---- what is built

    public int addPlace(int room) throws IllegalArgumentException, IllegalStateException {
        requireArgument(isBetween(room, 1, MOST_ROOM));
        requireState(placeCount < MOST_PLACES);
        int place = placeCount;
        roomOf[place] = room;
        placeCount++;
        findWays();
        return place;
    }

    public int addDoor(int one, int other, int flow, int share)
            throws IndexOutOfBoundsException, IllegalArgumentException, IllegalStateException {
        requirePlace(one);
        requirePlace(other);
        requireArgument(one != other && isBetween(flow, 1, MOST_FLOW) && isBetween(share, 1, MOST_SHARE));
        requireState(doorCount < MOST_DOORS);
        int door = doorCount;
        oneEnd[door] = one;
        otherEnd[door] = other;
        flowOf[door] = flow;
        shareOf[door] = share;
        isOpen[door] = true;
        doorCount++;
        findWays();
        return door;
    }

    public boolean setDoor(int door, boolean open) throws IndexOutOfBoundsException {
        requireDoor(door);
        boolean before = isOpen[door];
        isOpen[door] = open;
        findWays();
        return before;
    }

    public int come(int place, int people)
            throws IndexOutOfBoundsException, IllegalArgumentException, IllegalStateException {
        requirePlace(place);
        requireArgument(place != OUTSIDE && isBetween(people, 1, MOST_COMING));
        requireState(people <= roomLeft(place));
        peopleAt[place] += people;
        return peopleAt[place];
    }

    public int setRelease(int place, int time) throws IndexOutOfBoundsException, IllegalArgumentException {
        requirePlace(place);
        requireArgument(isBetween(time, 0, MOST_RELEASE));
        int before = releaseOf[place];
        releaseOf[place] = time;
        return before;
    }

    public int places() {
        return placeCount;
    }

    public int doors() {
        return doorCount;
    }

    // ---- steps

    public int step(int steps) throws IllegalArgumentException {
        requireArgument(isBetween(steps, 1, MOST_STEPS));
        int before = peopleAt[OUTSIDE];
        for (int i = 0; i < steps; i++) {
            passOneStep();
        }
        return peopleAt[OUTSIDE] - before;
    }

    public int clear() {
        int steps = 0;
        boolean hopeless = false;
        while (steps < MOST_STEPS_TO_CLEAR && !hopeless && inside() > 0) {
            boolean released = areAllReleased();
            int moved = passOneStep();
            hopeless = moved == 0 && released;
            steps++;
        }
        return steps;
    }

    public int now() {
        return timeNow;
    }

    // ---- people

    public int people(int place) throws IndexOutOfBoundsException {
        requirePlace(place);
        return peopleAt[place];
    }

    public int inside() {
        int sum = 0;
        for (int place = OUTSIDE + 1; place < placeCount; place++) {
            sum += peopleAt[place];
        }
        return sum;
    }

    public int latest() throws NoSuchElementException {
        requireElement(latestTime != NONE);
        return latestTime;
    }

    public int passed(int door) throws IndexOutOfBoundsException {
        requireDoor(door);
        return passedBy[door];
    }

    public int waited() {
        return waitedSum;
    }

    // ---- ways

    public int distance(int place) throws IndexOutOfBoundsException, NoSuchElementException {
        requirePlace(place);
        requireElement(distanceOf[place] != NONE);
        return distanceOf[place];
    }

    public int door(int place) throws IndexOutOfBoundsException, NoSuchElementException {
        requirePlace(place);
        requireElement(doorOf[place] != NONE);
        return doorOf[place];
    }

    public int trapped() {
        int sum = 0;
        for (int place = OUTSIDE + 1; place < placeCount; place++) {
            if (distanceOf[place] == NONE) {
                sum += peopleAt[place];
            }
        }
        return sum;
    }

    public int wouldMove(int place) throws IndexOutOfBoundsException {
        requirePlace(place);
        int door = doorOf[place];
        if (!isDoor(door)) {
            return 0;
        }
        grantAll();
        return grantedTo[door];
    }

    // ---- the bound

    public int bound() throws IllegalStateException {
        requireState(trapped() == 0);
        int most = 0;
        for (int distance = 1; distance < placeCount; distance++) {
            most = Math.max(most, boundAt(distance));
        }
        return most;
    }

    private int boundAt(int distance) {
        int crowd = peopleFrom(distance);
        int flow = flowInward(distance);
        if (crowd == 0 || flow == 0) {
            return 0;
        }
        return distance - 1 + (crowd + flow - 1) / flow;
    }

    private int peopleFrom(int distance) {
        int sum = 0;
        for (int place = OUTSIDE + 1; place < placeCount; place++) {
            if (distanceOf[place] >= distance) {
                sum += peopleAt[place];
            }
        }
        return sum;
    }

    // All open doors between the two distances count here, also those that are no place's door.
    private int flowInward(int distance) {
        int sum = 0;
        for (int door = 0; door < doorCount; door++) {
            int one = distanceOf[oneEnd[door]];
            int other = distanceOf[otherEnd[door]];
            boolean joinsBoth = one == distance && other == distance - 1 || other == distance && one == distance - 1;
            if (isOpen[door] && joinsBoth) {
                sum += flowOf[door];
            }
        }
        return sum;
    }

    // ---- one step

    private int passOneStep() {
        grantAll();
        int outsideBefore = peopleAt[OUTSIDE];
        int moved = moveGranted();
        timeNow++;
        if (peopleAt[OUTSIDE] > outsideBefore) {
            latestTime = timeNow;
        }
        waitedSum += inside();
        return moved;
    }

    // Grants depend on the people at the beginning of the step alone, so nobody moves before all is granted.
    private void grantAll() {
        for (int door = 0; door < doorCount; door++) {
            grantedTo[door] = 0;
        }
        for (int place = OUTSIDE; place < placeCount; place++) {
            grantAt(place);
        }
    }

    private void grantAt(int place) {
        int left = roomLeft(place);
        // While there is room, a round grants each wish one person at least: no wish outlasts MOST_FLOW rounds.
        for (int round = 0; round < MOST_FLOW; round++) {
            int granted = grantRound(place, left);
            if (granted == 0) {
                return;
            }
            left -= granted;
        }
    }

    private int grantRound(int place, int room) {
        int left = room;
        for (int door = 0; door < doorCount; door++) {
            if (targetOf[door] == place) {
                int wishLeft = wishBy(door) - grantedTo[door];
                int more = Math.min(Math.min(shareOf[door], wishLeft), left);
                grantedTo[door] += more;
                left -= more;
            }
        }
        return room - left;
    }

    private int wishBy(int door) {
        int source = sourceOf[door];
        if (!isPlace(source) || releaseOf[source] > timeNow) {
            return 0;
        }
        return Math.min(peopleAt[source], flowOf[door]);
    }

    private int moveGranted() {
        int moved = 0;
        for (int door = 0; door < doorCount; door++) {
            int source = sourceOf[door];
            int target = targetOf[door];
            if (isPlace(source) && isPlace(target)) {
                peopleAt[source] -= grantedTo[door];
                peopleAt[target] += grantedTo[door];
                passedBy[door] += grantedTo[door];
                moved += grantedTo[door];
            }
        }
        return moved;
    }

    private int roomLeft(int place) {
        return place == OUTSIDE ? ROOM_FOR_ALL : roomOf[place] - peopleAt[place];
    }

    private boolean areAllReleased() {
        for (int place = OUTSIDE; place < placeCount; place++) {
            if (releaseOf[place] > timeNow) {
                return false;
            }
        }
        return true;
    }

    // ---- finding the ways

    // The ways change only with places and doors, so they are kept between the steps.
    private void findWays() {
        measureDistances();
        for (int place = OUTSIDE; place < placeCount; place++) {
            doorOf[place] = NONE;
        }
        for (int door = 0; door < doorCount; door++) {
            sourceOf[door] = NONE;
            targetOf[door] = NONE;
            // Going by rising numbers, the first door that fits a place is its lowest.
            offerDoor(door, oneEnd[door], otherEnd[door]);
            offerDoor(door, otherEnd[door], oneEnd[door]);
        }
    }

    private void measureDistances() {
        distanceOf[OUTSIDE] = 0;
        for (int place = OUTSIDE + 1; place < placeCount; place++) {
            distanceOf[place] = NONE;
        }
        for (int distance = 1; distance < placeCount; distance++) {
            for (int door = 0; door < doorCount; door++) {
                if (isOpen[door]) {
                    reach(oneEnd[door], otherEnd[door], distance);
                    reach(otherEnd[door], oneEnd[door], distance);
                }
            }
        }
    }

    private void reach(int from, int to, int distance) {
        if (distanceOf[from] == NONE && distanceOf[to] == distance - 1) {
            distanceOf[from] = distance;
        }
    }

    private void offerDoor(int door, int from, int to) {
        boolean leadsOut = isOpen[door] && distanceOf[from] >= 1 && distanceOf[to] == distanceOf[from] - 1;
        if (leadsOut && doorOf[from] == NONE) {
            doorOf[from] = door;
            sourceOf[door] = from;
            targetOf[door] = to;
        }
    }

    // ---- tests of what is given

    private boolean isPlace(int place) {
        return place >= OUTSIDE && place < placeCount;
    }

    private boolean isDoor(int door) {
        return door >= 0 && door < doorCount;
    }

    private static boolean isBetween(int value, int least, int most) {
        return value >= least && value <= most;
    }

    private void requirePlace(int place) {
        if (!isPlace(place)) {
            throw new IndexOutOfBoundsException("no such place");
        }
    }

    private void requireDoor(int door) {
        if (!isDoor(door)) {
            throw new IndexOutOfBoundsException("no such door");
        }
    }

    private static void requireArgument(boolean holds) {
        if (!holds) {
            throw new IllegalArgumentException("an argument is out of range");
        }
    }

    private static void requireState(boolean holds) {
        if (!holds) {
            throw new IllegalStateException("the bench does not allow this now");
        }
    }

    private static void requireElement(boolean holds) {
        if (!holds) {
            throw new NoSuchElementException("there is none");
        }
    }
}
