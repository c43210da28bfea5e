/** Calls of the class by the numbers of their promises. */
final class SnowHutCalls {
    private SnowHutCalls() {
    }

    static long call(SnowHut x, int promise, int[] a) {
        return switch (promise) {
            case 2 -> x.row(a[0], a[1]);
            case 3 -> x.lay(a[0], a[1], a[2]);
            case 4 -> x.at(a[0], a[1]);
            case 5 -> x.tear(a[0]);
            case 6 -> x.copy(a[0], a[1], a[2], a[3], a[4]);
            case 7 -> x.mean(a[0]);
            case 8 -> x.text(a[0], a[1]);
            case 9 -> x.put(a[0], a[1], a[2]);
            case 10 -> x.fault(a[0]);
            case 11 -> x.hut(a[0]);
            case 12 -> x.guest(a[0], a[1]);
            case 13 -> x.mark(a[0], a[1]);
            case 14 -> x.follows(a[0]);
            case 15 -> x.moved(a[0], a[1]);
            case 16 -> x.send(a[0], a[1]);
            case 17 -> x.say(a[0]);
            case 18 -> x.wood();
            case 19 -> x.undo(a[0]);
            case 20 -> x.keep(a[0]);
            case 21 -> x.on(a[0]);
            case 22 -> x.both();
            case 23 -> x.can();
            case 24 -> x.talk(a[0]);
            case 25 -> x.soonest(a[0], a[1]);
            case 26 -> x.ways(a[0], a[1]);
            case 27 -> x.match();
            case 28 -> x.sets();
            case 29 -> x.change(a[0]);
            case 30 -> x.kinds(a[0], a[1]);
            case 31 -> x.test(a[0], a[1]);
            case 32 -> x.duel(a[0]);
            case 33 -> x.odds(a[0], a[1], a[2]);
            case 34 -> x.mid(a[0], a[1]);
            case 35 -> x.lots(a[0], a[1]);
            case 36 -> x.asked();
            case 37 -> x.upper();
            case 38 -> x.lower();
            case 39 -> x.count(a[0]);
            case 40 -> x.finding();
            case 41 -> x.findings(a[0]);
            default -> x.digest();
        };
    }
}
