/** Houses in which much has been told, and all that can be seen of a house. */
final class States {
    private States() {
    }

    /** So many CAUSES, which no READING tells apart, so that every set is a RIVAL. */
    static DampHouse withCauses(int n) {
        DampHouse x = new DampHouse();
        for (int i = 0; i < n; i++) {
            x.cause(3, 0, 1, 0);
        }
        return x;
    }

    /** A PIPE of 99 at WALL 0 with DRY of a half: DAMP is 49, 74, 86, 92, 95, 97, 98, 98 .. at the ends of HOURS. */
    static DampHouse dripping() {
        DampHouse x = new DampHouse();
        x.wall(0, 0, 0, false);
        x.dry(50);
        x.cause(1, 0, 99, 0);
        x.truth(0, true);
        return x;
    }

    /**
     * At HOUR 50: WALLS 0 and 11 (OUTER) and 1 (not), CAUSES 0 to 2, LOOKS 0 to 2 (1 is ANSWERED), READINGS in
     * HOURS 40 and 45; every ROOM has TRIALS in 10 .. 20 (0 to 5), 45 .. 55 (6 to 11) and 60 .. 70 (12 to 17).
     */
    static DampHouse busy() {
        DampHouse x = new DampHouse();
        x.wall(0, 0, 50, true);
        x.wall(1, 0, 25, false);
        x.wall(11, 5, 100, true);
        x.made(0, 7, 900);
        x.made(5, 20, 999);
        x.outside(3, 0, -5);
        x.outside(5, 1, 4);
        x.room(0, 3, 30);
        x.cause(1, 1, 20, 0);
        x.cause(0, 0, 3, 2);
        x.cause(3, 5, 60, 0);
        x.truth(0, true);
        x.truth(2, true);
        for (int from : new int[] {10, 45, 60}) {
            for (int room = 0; room < 6; room++) {
                x.trial(room, room % 2, 40, from, from + 10);
            }
        }
        x.hours(50);
        x.reading(0, 40, 100, 50);
        x.reading(1, 45, 60, 900);
        x.look(1, 10);
        x.look(6, 5);
        x.look(3, 7);
        x.answer(1, true);
        for (int i = 0; i < 8; i++) {
            x.flat(i, i % 3, i / 3, i % 2);
        }
        x.rule(2, 1, 0, 9);
        x.rule(3, 1, 1, 4);
        x.word(true, 1, true);
        x.word(false, 1, false);
        return x;
    }

    /** At HOUR 600, with as many WALLS, CAUSES, LOOKS, READINGS, TRIALS, RULES and known FLATS as there can be. */
    static DampHouse full() {
        DampHouse x = new DampHouse();
        for (int i = 0; i < 12; i++) {
            x.wall(i, i % 6, 8 * i, i % 2 == 0);
            x.rule(2 * i, i % 4, i % 2, 8 * i);
            x.made(i % 6, 2 * i, 300);
        }
        for (int i = 0; i < 10; i++) {
            x.cause(i % 4, 2 * i % 6, 10 + i, 10 * i);
            x.truth(i, i % 3 == 0);
            x.look(1 << i % 6, 10 + i);
        }
        for (int i = 0; i < 20; i++) {
            x.trial(i % 6, i % 2, 50 - i, 30 * i, 30 * i + 30);
        }
        for (int i = 0; i < 24; i++) {
            x.flat(i, i / 6, i % 6, i % 2);
        }
        x.hours(600);
        for (int i = 0; i < 60; i++) {
            x.reading(i % 12, 10 * i, 500, 999);
        }
        return x;
    }

    /** What some 250 calls answer of which none asks how many refusals there were; the house is changed by them. */
    static String seenOf(DampHouse x) {
        StringBuilder seen = new StringBuilder();
        counts(x, seen);
        damps(x, seen);
        for (int wall = 0; wall < 12; wall++) {
            seen.append(x.wallOf(wall, 0)).append(' ').append(x.wallOf(wall, 1)).append(' ');
            seen.append(x.wallOf(wall, 2)).append(' ').append(x.wallOf(wall, 5)).append(' ');
        }
        evidence(x, seen);
        laws(x, seen);
        told(x, seen);
        for (int trial = 0; trial < 20; trial++) {
            seen.append(x.trialOf(trial, 0)).append(' ');
        }
        x.hours(6);
        damps(x, seen);
        seen.append(x.reading(0, x.count(0), 77, 7)).append(' ').append(x.cause(1, 0, 9, 0)).append(' ');
        seen.append(x.look(9, 9)).append(' ').append(x.rule(25, 0, 0, 0)).append(' ');
        seen.append(x.trial(3, 0, 0, 598, 599)).append(' ').append(x.answer(0, false)).append(' ');
        counts(x, seen);
        return seen.toString();
    }

    private static void counts(DampHouse x, StringBuilder seen) {
        for (int what = 0; what < 10; what++) {
            seen.append(x.count(what)).append(' ');
        }
    }

    private static void damps(DampHouse x, StringBuilder seen) {
        for (int wall = 0; wall < 12; wall++) {
            seen.append(x.wallOf(wall, 3)).append(' ').append(x.wallOf(wall, 4)).append(' ');
        }
        for (int room = 0; room < 6; room++) {
            seen.append(x.wet(room)).append(' ');
        }
    }

    private static void evidence(DampHouse x, StringBuilder seen) {
        for (int set : new int[] {0, 1, 5, 7}) {
            seen.append(Face.call(x, "off", set)).append(' ');
            seen.append(x.tale(set, 0)).append(' ').append(x.tale(set, 11)).append(' ');
        }
        seen.append(x.best()).append(' ').append(x.simple(0)).append(' ').append(x.simple(1)).append(' ');
        seen.append(x.rivals()).append(' ').append(x.next()).append(' ').append(x.plan()).append(' ');
    }

    private static void laws(DampHouse x, StringBuilder seen) {
        seen.append(x.joins()).append(' ').append(x.chance(0)).append(' ').append(x.chance(1)).append(' ');
        for (int kind = 0; kind < 4; kind++) {
            seen.append(x.due(kind, 0)).append(' ').append(x.due(kind, 1)).append(' ');
            seen.append(x.quarrel(kind)).append(' ');
        }
        for (int flat = 0; flat < 24; flat += 23) {
            seen.append(x.flat(flat, 0, 0, 2)).append(' ').append(x.joins()).append(' ');
        }
        seen.append(x.child(true)).append(' ');
    }

    private static void told(DampHouse x, StringBuilder seen) {
        for (int room = 0; room < 6; room += 5) {
            for (int what = 0; what < 5; what++) {
                seen.append(x.room(room, what, what == 0 ? 10 : 1)).append(' ');
            }
            for (int hour : new int[] {0, 7, 20, 23}) {
                seen.append(x.made(room, hour, 5)).append(' ');
            }
        }
        for (int hour : new int[] {0, 3, 5, 599}) {
            seen.append(x.outside(hour, 0, 99)).append(' ').append(x.outside(hour, 1, 99)).append(' ');
        }
        seen.append(x.dry(3)).append(' ');
    }
}
