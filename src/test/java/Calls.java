/** The calls by their names, so that tests can tell them as texts. */
final class Calls {
    private Calls() {
    }

    /** Makes a call; its arguments stand in a and b as far as it has them. */
    static int ask(DockedBikes x, String name, int a, int b) {
        switch (name) {
            case "station": return x.station(a, b);
            case "bicycle": return x.bicycle(a);
            case "rider": return x.rider();
            case "van": return x.van(a, b);
            case "pass": return x.pass(a);
            case "rent": return x.rent(a, b);
            case "back": return x.back(a, b);
            case "full": return x.full(a, b);
            case "report": return x.report(a);
            case "take": return x.take(a, b);
            case "put": return x.put(a, b);
            case "go": return x.go(a, b);
            case "mend": return x.mend(a, b);
            case "pause": return x.pause(a);
            case "set": return x.set(a, b);
            case "stationOf": return x.stationOf(a, b);
            case "bicycleOf": return x.bicycleOf(a, b);
            case "riderOf": return x.riderOf(a, b);
            case "vanOf": return x.vanOf(a, b);
            case "count": return x.count(a);
            case "move": return x.move(a);
            case "evening": return x.evening();
            case "keep": return x.keep();
            case "restore": return x.restore();
            case "undo": return x.undo();
            case "type": return x.type(a);
            case "clearText": return x.clearText();
            case "fault": return x.fault(a);
            case "play": return x.play();
            default: throw new IllegalArgumentException("no call " + name);
        }
    }
}
