/** Calls made by name, so that tests can tell them in rows. */
final class Calls {
    private Calls() {
    }

    /** The call as it stands in a program: name(1, 2). */
    static String told(String name, int... a) {
        StringBuilder text = new StringBuilder(name).append('(');
        for (int i = 0; i < a.length; i++) {
            text.append(i == 0 ? "" : ", ").append(a[i]);
        }
        return text.append(')').toString();
    }

    /** The answer that is a refusal: longs tell it far above every fraction. */
    static long refusal(String name, int number) {
        boolean ofLongs = name.equals("lost") || name.equals("mean");
        return ofLongs ? 4000000000000000000L - number : number;
    }

    static long call(RoutesByTries x, String name, int... a) {
        switch (name) {
            case "letter": return x.letter(a[0]);
            case "table": return x.table();
            case "kind": return x.kind(a[0], a[1], a[2]);
            case "verb": return x.verb(a[0], a[1]);
            case "drops": return x.drops(a[0]);
            case "copies": return x.copies(a[0], a[1]);
            case "route": return x.route(a[0], a[1]);
            case "segment": return x.segment(a[0], a[1]);
            case "nodes": return x.nodes(a[0]);
            case "letterOf": return x.letterOf(a[0], a[1]);
            case "match": return x.match(a[0], a[1]);
            case "bound": return x.bound(a[0], a[1], a[2]);
            case "looked": return x.looked(a[0], a[1]);
            case "verbs": return x.verbs(a[0]);
            case "brought": return x.brought(a[0], a[1]);
            case "never": return x.never();
            case "matched": return x.matched(a[0]);
            case "witness": return x.witness(a[0], a[1]);
            case "clash": return x.clash(a[0]);
            case "build": return x.build(a[0], a[1], a[2], a[3], a[4]);
            case "back": return x.back(a[0]);
            case "without": return x.without(a[0], a[1], a[2]);
            case "best": return x.best(a[0]);
            case "lost": return x.lost(a[0], a[1], a[2], a[3]);
            case "mean": return x.mean(a[0], a[1]);
            case "whatIs": return x.whatIs(a[0], a[1]);
            case "row": return x.row(a[0]);
            case "judge": return x.judge(a[0]);
            case "clear": return x.clear();
            case "lots": return x.lots(a[0], a[1], a[2]);
            case "image": return x.image();
            case "on": return x.on();
            case "count": return x.count(a[0]);
            default: throw new IllegalArgumentException(name);
        }
    }
}
