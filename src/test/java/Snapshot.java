import java.util.function.IntSupplier;

/** All that a bench answers without being changed, as one text. */
final class Snapshot {
    private Snapshot() {
    }

    static String of(Stairflow x) {
        StringBuilder text = new StringBuilder();
        text.append("places ").append(x.places()).append(" doors ").append(x.doors());
        text.append(" now ").append(x.now()).append(" inside ").append(x.inside());
        text.append(" latest ").append(answer(x::latest)).append(" waited ").append(x.waited());
        text.append(" trapped ").append(x.trapped()).append(" bound ").append(answer(x::bound));
        for (int i = -1; i <= x.places(); i++) {
            int place = i;
            text.append(" | place ").append(place);
            text.append(" people ").append(answer(() -> x.people(place)));
            text.append(" distance ").append(answer(() -> x.distance(place)));
            text.append(" door ").append(answer(() -> x.door(place)));
            text.append(" wouldMove ").append(answer(() -> x.wouldMove(place)));
        }
        for (int i = -1; i <= x.doors(); i++) {
            int door = i;
            text.append(" | passed ").append(door).append(' ').append(answer(() -> x.passed(door)));
        }
        return text.toString();
    }

    static String answer(IntSupplier call) {
        try {
            return Integer.toString(call.getAsInt());
        } catch (RuntimeException e) {
            return e.getClass().getSimpleName();
        }
    }
}
