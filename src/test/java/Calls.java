/** Any call of the face by its name, so that tables of calls can be written. */
final class Calls {
    private Calls() {
    }

    static long ask(CoverMarks x, String name, int... a) {
        switch (name) {
            case "town": return x.town(a[0], a[1]);
            case "office": return x.office(a[0], a[1], a[2]);
            case "die": return x.die(a[0], a[1], a[2], a[3], a[4]);
            case "mark": return x.mark(a[0], a[1], a[2], a[3], a[4], a[5], a[6], a[7]);
            case "lean": return x.lean(a[0], a[1]);
            case "about": return x.about(a[0], a[1]);
            case "span": return x.span(a[0], a[1]);
            case "can": return x.can(a[0], a[1]);
            case "marks": return x.marks(a[0], a[1]);
            case "sail": return x.sail(a[0], a[1], a[2], a[3]);
            case "late": return x.late(a[0], a[1]);
            case "road": return x.road(a[0], a[1], a[2]);
            case "soonest": return x.soonest(a[0], a[1], a[2]);
            case "goes": return x.goes(a[0], a[1], a[2]);
            case "when": return x.when(a[0], a[1], a[2], a[3]);
            case "bars": return x.bars(a[0], a[1]);
            case "fewest": return x.fewest(a[0], a[1], a[2]);
            case "type": return x.type(a[0], a[1]);
            case "clear": return x.clear();
            case "rates": return x.rates();
            case "owed": return x.owed(a[0], a[1], a[2], a[3], a[4]);
            case "weights": return x.weights(a[0], a[1], a[2], a[3], a[4]);
            case "mail": return x.mail(a[0], a[1], a[2]);
            case "heap": return x.heap(a[0], a[1]);
            case "many": return x.many(a[0], a[1]);
            case "look": return x.look(a[0], a[1]);
            case "count": return x.count(a[0]);
            case "trace": return x.trace();
            default: throw new IllegalArgumentException(name);
        }
    }

    static String told(String name, int... a) {
        StringBuilder text = new StringBuilder(name).append('(');
        for (int i = 0; i < a.length; i++) {
            text.append(i == 0 ? "" : ", ").append(a[i]);
        }
        return text.append(')').toString();
    }

    static boolean isRefusal(long answer) {
        return answer == CoverMarks.BAD || answer == CoverMarks.STATE || answer == CoverMarks.FULL;
    }
}
