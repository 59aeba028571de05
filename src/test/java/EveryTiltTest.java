/**
 * Every tilt of every kind of dial but painted ones, each with one turn, one town and one day: the true minutes that
 * fit each minute that it may tell, and how many minutes of that day it tells at all, against a walk by Plain.
 */
public final class EveryTiltTest {
    private static final String[] KINDS = {"east", "west", "bowl", "moon", "cannon"};
    /** The longest day, both of the shortest ones, the first, the last but one, and moons of AGE 8, 15 and 22. */
    private static final int[] DAYS = {188, 165, 172, 202, 354, 355, 0, 363, 38, 285, 82};
    private static final int MINUTES = 1440;
    private static final int MOST_CALLS = 512;
    private static final int CALLS_OF_ONE = 5;

    private final String text;
    private final int day;
    private final int[] many = new int[MINUTES];
    private final int[] least = new int[MINUTES];
    private final int[] greatest = new int[MINUTES];
    private int lit = 0;
    private LyingDials x = null;
    private int calls = 0;

    private EveryTiltTest(String text, int day) {
        this.text = text;
        this.day = day;
    }

    public static void main(String[] args) {
        int made = 0;
        for (int tilt = -50; tilt <= 50; tilt++) {
            for (String kind : KINDS) {
                int day = DAYS[made % DAYS.length];
                new EveryTiltTest(port(kind, tilt, made, day), day).ask();
                made++;
            }
        }
        Kit.end();
    }

    /** By steps that share nothing with 241, so that every turn and every town comes, though not with every tilt. */
    private static String port(String kind, int tilt, int made, int day) {
        int turn = made * 7 % 241 - 120;
        int town = made * 100 % 241 - 120;
        int limp = made * 11 % 61 - 30;
        String limps = (" " + limp).repeat(12);
        String cloud = made % 3 == 0 ? "cloud " + day + " " + (made * 17 % 720) + " " + (720 + made * 5 % 60) + ";" : "";
        return "dial " + kind + " " + turn + " " + tilt + " " + town + ";swing " + made * 29 % 241 + ";limps" + limps
                + ";" + cloud;
    }

    private void ask() {
        walk();
        renew();
        int lost = x.takes(0, day) - x.takes(0, day + 1);
        Kit.same("takes on " + day + " of " + text, lit, lost);
        calls += 2;
        for (int told = 0; told < MINUTES; told++) {
            if (calls + CALLS_OF_ONE > MOST_CALLS) {
                renew();
            }
            askOne(told);
        }
    }

    private void walk() {
        Plain plain = new Plain();
        for (int at = 0; at < text.length(); at += 20) {
            plain.feed(Kit.numbersOf(text, at));
        }
        plain.port(text.length());
        java.util.Arrays.fill(least, -1);
        java.util.Arrays.fill(greatest, -1);
        for (int minute = 0; minute < MINUTES; minute++) {
            int told = plain.tells(0, day, minute);
            if (told != Plain.DARK) {
                lit++;
                many[told]++;
                least[told] = least[told] == -1 ? minute : least[told];
                greatest[told] = minute;
            }
        }
    }

    private void renew() {
        x = Kit.of(text);
        calls = (text.length() + 19) / 20 + 1;
    }

    private void askOne(int told) {
        calls += CALLS_OF_ONE;
        x.see(0, told);
        boolean alike = x.minutes(day, 0) == many[told] && x.minutes(day, 1) == least[told]
                && x.minutes(day, 2) == greatest[told];
        Kit.same("minutes on " + day + " when it tells " + told + " of " + text, true, alike);
        x.forget();
    }
}
