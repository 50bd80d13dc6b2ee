/** Every method of OtherNames by its name, so that tests can tell calls as text. */
final class Calls {
    private Calls() { }

    /** A boolean counts 1 or 0. */
    static int on(OtherNames x, String method, int[] a) {
        switch (method) {
            case "person": return x.person(a[0], a[1], a[2], a[3]);
            case "mark": return x.mark(a[0], a[1], a[2]) ? 1 : 0;
            case "house": return x.house(a[0], a[1], a[2], a[3], a[4]);
            case "day": return x.day(a[0]) ? 1 : 0;
            case "one": return x.one(a[0], a[1]) ? 1 : 0;
            case "part": return x.part(a[0]) ? 1 : 0;
            case "strike": return x.strike(a[0]) ? 1 : 0;
            case "name": return x.name(a[0], a[1]);
            case "leads": return x.leads(a[0], a[1]);
            case "bridge": return x.bridge(a[0], a[1], a[2], a[3]) ? 1 : 0;
            case "holds": return x.holds(a[0], a[1], a[2]);
            case "cross": return x.cross(a[0], a[1], a[2], a[3]);
            case "back": return x.back(a[0], a[1], a[2], a[3], a[4]);
            case "lose": return x.lose(a[0]) ? 1 : 0;
            case "anew": return x.anew(a[0], a[1]) ? 1 : 0;
            case "joins": return x.joins(a[0], a[1], a[2]);
            case "least": return x.least(a[0], a[1]);
            case "count": return x.count(a[0], a[1], a[2]);
            case "record": return x.record(a[0], a[1]);
            case "given": return x.given(a[0], a[1]);
            case "look": return x.look(a[0], a[1]);
            case "tell": return x.tell(a[0]);
            default: throw new IllegalStateException(method);
        }
    }
}
