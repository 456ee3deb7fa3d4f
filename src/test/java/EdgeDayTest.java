/** The edges that the document names of DAYS (promises 19 to 21). */
public final class EdgeDayTest {
  private static final int LOW = Integer.MIN_VALUE;
  private static final int HIGH = Integer.MAX_VALUE;
  private static final LibraryDesk X = new LibraryDesk();
  private static final int FIRST = X.date(-9999, 1, 1);
  private static final int LAST = X.date(9999, 12, 31);

  public static void main(String[] args) {
    firstAndLast();
    daysThatAreNone();
    monthsAndDays();
    leapYears();
    daysOutOfTheYears();
    parts();
    weeksAtTheTurnOfTheYear();
    plusUpToTheEnds();
    plusFarBeyond();
    daysThatAMonthHasNot();
    unitsCut();
    monthsBetween();
    theOtherWayRound();
    Check.end("EdgeDayTest");
  }

  private static int day(int y, int m, int d) {
    return X.date(y, m, d);
  }

  /** "DAYS are numbered, 0 is 1970-01-01 .. years -9999 .. 9999", counted by hand from year to year. */
  private static void firstAndLast() {
    Check.due(() -> X.date(1970, 1, 1), 0);
    Check.due(() -> X.date(1969, 12, 31), -1);
    Check.due(() -> X.date(1970, 1, 2), 1);
    long day = 0;
    for (int y = 1970; y <= 9999; y++) {
      int year = y;
      Check.due(() -> X.date(year, 1, 1), day);
      day += leap(y) ? 366 : 365;
    }
    Check.due(() -> X.date(9999, 12, 31), day - 1);
    day = 0;
    for (int y = 1969; y >= -9999; y--) {
      int year = y;
      day -= leap(y) ? 366 : 365;
      Check.due(() -> X.date(year, 1, 1), day);
    }
  }

  private static boolean leap(int y) {
    return y % 4 == 0 && (y % 100 != 0 || y % 400 == 0);
  }

  private static void none(int y, int m, int d) {
    Check.illegal(X, () -> X.date(y, m, d));
  }

  /** "there is none: IllegalArgumentException (so for days out of these years)". */
  private static void daysThatAreNone() {
    for (int y : new int[] {10000, -10000, LOW, HIGH}) {
      none(y, 1, 1);
      none(y, 12, 31);
    }
    for (int m : new int[] {0, 13, -1, LOW, HIGH}) {
      none(2000, m, 1);
    }
    for (int d : new int[] {0, 32, -1, LOW, HIGH}) {
      none(2000, 1, d);
      none(-9999, 1, d);
      none(9999, 12, d);
    }
  }

  /** The last day of each month, and the one behind it. */
  private static void monthsAndDays() {
    int[] days = {31, 28, 31, 30, 31, 30, 31, 31, 30, 31, 30, 31};
    for (int y : new int[] {-9999, -1, 1, 1900, 1970, 2023, 9999}) {
      for (int m = 1; m <= 12; m++) {
        int month = m;
        int last = days[m - 1];
        Check.due(() -> X.part(X.date(y, month, last), 8), last);
        Check.due(() -> X.part(X.date(y, month, last), 2), last);
        Check.due(() -> X.part(X.date(y, month, 1), 2), 1);
        none(y, m, last + 1);
        if (m < 12) {
          Check.due(() -> X.date(y, month + 1, 1) - X.date(y, month, last), 1);
        }
      }
    }
  }

  /** "the calendar of Gregor, also before it began (year 0 is there)". */
  private static void leapYears() {
    for (int y : new int[] {-9996, -8000, -400, -4, 0, 4, 400, 1600, 1972, 2000, 2024, 9996}) {
      Check.due(() -> X.part(X.date(y, 2, 29), 5), 1);
      Check.due(() -> X.part(X.date(y, 12, 31), 4), 366);
      Check.due(() -> X.part(X.date(y, 2, 1), 8), 29);
      Check.due(() -> X.date(y, 3, 1) - X.date(y, 2, 28), 2);
      none(y, 2, 30);
    }
    for (int y : new int[] {-9999, -9900, -100, -1, 1, 100, 1500, 1900, 2023, 2100, 9900, 9999}) {
      none(y, 2, 29);
      Check.due(() -> X.part(X.date(y, 1, 1), 5), 0);
      Check.due(() -> X.part(X.date(y, 12, 31), 4), 365);
    }
  }

  /** "(so for days out of these years)", of all calls that take a DAY. */
  private static void daysOutOfTheYears() {
    for (int day : new int[] {FIRST - 1, LAST + 1, LOW, HIGH}) {
      for (int what = -1; what <= 9; what++) {
        int w = what;
        Check.illegal(X, () -> X.part(day, w));
      }
      for (int unit = -1; unit <= 4; unit++) {
        int u = unit;
        Check.illegal(X, () -> X.plus(day, u, 0));
        Check.illegal(X, () -> X.plus(day, u, HIGH));
        Check.illegal(X, () -> X.between(day, 0, u));
        Check.illegal(X, () -> X.between(0, day, u));
        Check.illegal(X, () -> X.between(day, day, u));
      }
    }
    for (int day : new int[] {FIRST, LAST}) {
      Check.due(() -> X.part(day, 0), day == FIRST ? -9999 : 9999);
      Check.due(() -> X.plus(day, 0, 0), day);
      Check.due(() -> X.between(day, day, 0), 0);
    }
    for (int unit : new int[] {-1, 4, LOW, HIGH}) {
      Check.illegal(X, () -> X.plus(0, unit, HIGH));
      Check.illegal(X, () -> X.between(0, 0, unit));
    }
  }

  /** part: "what 0 .. 8". */
  private static void parts() {
    int[][] all = {{FIRST, -9999, 1, 1, 1, 1, 0, 1, -9999, 31}, {LAST, 9999, 12, 31, 5, 365, 0, 52, 9999, 31}, {0, 1970, 1, 1, 4, 1, 0, 1, 1970, 31}, {-1, 1969, 12, 31, 3, 365, 0, 1, 1970, 31},
        {day(2000, 2, 29), 2000, 2, 29, 2, 60, 1, 9, 2000, 29}, {day(0, 12, 31), 0, 12, 31, 7, 366, 1, 52, 0, 31}};
    for (int[] a : all) {
      for (int what = 0; what <= 8; what++) {
        int w = what;
        Check.due("part " + w + " of " + a[0], () -> X.part(a[0], w), a[w + 1]);
      }
      for (int what : new int[] {-1, 9, LOW, HIGH}) {
        Check.illegal(X, () -> X.part(a[0], what));
      }
    }
    for (int i = -8; i <= 8; i++) {
      int day = i;
      Check.due(() -> X.part(day, 3), (day + 21 + 3) % 7 + 1);
    }
  }

  /** "6 week by ISO 8601, 7 the year of that": first and last days of years that begin on each day of the week. */
  private static void weeksAtTheTurnOfTheYear() {
    int[][] all = {{2018, 12, 30, 52, 2018}, {2018, 12, 31, 1, 2019}, {2019, 1, 1, 1, 2019}, {2019, 12, 29, 52, 2019}, {2019, 12, 30, 1, 2020}, {2020, 1, 1, 1, 2020}, {2020, 12, 31, 53, 2020}, {2021, 1, 1, 53, 2020},
        {2021, 1, 3, 53, 2020}, {2021, 1, 4, 1, 2021}, {2021, 12, 31, 52, 2021}, {2022, 1, 1, 52, 2021}, {2022, 1, 2, 52, 2021}, {2022, 1, 3, 1, 2022}, {2023, 1, 1, 52, 2022}, {2023, 1, 2, 1, 2023},
        {2024, 12, 29, 52, 2024}, {2024, 12, 30, 1, 2025}, {2026, 12, 31, 53, 2026}, {2027, 1, 3, 53, 2026}, {2015, 12, 31, 53, 2015}, {2016, 1, 3, 53, 2015}, {2005, 1, 1, 53, 2004}, {2004, 12, 31, 53, 2004},
        {2010, 1, 3, 53, 2009}, {2010, 1, 4, 1, 2010}};
    for (int[] a : all) {
      int day = day(a[0], a[1], a[2]);
      Check.due("week of " + a[0] + "-" + a[1] + "-" + a[2], () -> X.part(day, 6), a[3]);
      Check.due("its year", () -> X.part(day, 7), a[4]);
    }
  }

  private static void beyond(int day, int unit, int n) {
    Check.arithmetic(X, () -> X.plus(day, unit, n));
  }

  /** plus: "out of the years: ArithmeticException": to the last DAY that is, and one further. */
  private static void plusUpToTheEnds() {
    int days = LAST - FIRST;
    Check.due(() -> X.plus(FIRST, 0, days), LAST);
    Check.due(() -> X.plus(LAST, 0, -days), FIRST);
    beyond(FIRST, 0, days + 1);
    beyond(LAST, 0, -days - 1);
    beyond(LAST, 0, 1);
    beyond(FIRST, 0, -1);
    Check.due(() -> X.plus(LAST - 7, 1, 1), LAST);
    Check.due(() -> X.plus(FIRST + 7, 1, -1), FIRST);
    beyond(LAST - 6, 1, 1);
    beyond(FIRST + 6, 1, -1);
    Check.due(() -> X.plus(FIRST, 2, 19999 * 12 - 1), day(9999, 12, 1));
    Check.due(() -> X.plus(LAST, 2, -19999 * 12 + 1), day(-9999, 1, 31));
    beyond(FIRST, 2, 19999 * 12);
    beyond(LAST, 2, -19999 * 12);
    Check.due(() -> X.plus(FIRST, 3, 19998), day(9999, 1, 1));
    Check.due(() -> X.plus(LAST, 3, -19998), day(-9999, 12, 31));
    beyond(FIRST, 3, 19999);
    beyond(LAST, 3, -19999);
    for (int unit = 0; unit < 4; unit++) {
      int u = unit;
      Check.due(() -> X.plus(FIRST, u, 0), FIRST);
      Check.due(() -> X.plus(LAST, u, 0), LAST);
    }
    beyond(day(9999, 12, 1), 2, 1);
    beyond(day(-9999, 1, 31), 2, -1);
    beyond(day(9999, 1, 1), 3, 1);
    beyond(day(-9999, 12, 31), 3, -1);
  }

  /** plus with numbers that do not fit: no wrap-around. */
  private static void plusFarBeyond() {
    for (int unit = 0; unit < 4; unit++) {
      for (int n : new int[] {LOW, HIGH, LOW + 1, 1 << 30, 613566757, 178956971, -178956971, 357913942}) {
        for (int day : new int[] {FIRST, 0, LAST}) {
          beyond(day, unit, n);
        }
      }
    }
  }

  /** "(a day of the month that is not there: the last one)". */
  private static void daysThatAMonthHasNot() {
    int[][] all = {{2023, 1, 31, 2, 1, 2023, 2, 28}, {2024, 1, 31, 2, 1, 2024, 2, 29}, {2024, 1, 30, 2, 1, 2024, 2, 29}, {2024, 1, 29, 2, 1, 2024, 2, 29}, {2023, 3, 31, 2, -1, 2023, 2, 28}, {2023, 3, 31, 2, 1, 2023, 4, 30},
        {2023, 5, 31, 2, -1, 2023, 4, 30}, {2023, 12, 31, 2, 2, 2024, 2, 29}, {2023, 1, 15, 2, -1, 2022, 12, 15}, {2023, 12, 15, 2, 1, 2024, 1, 15}, {2023, 1, 1, 2, -13, 2021, 12, 1}, {2024, 2, 29, 3, 1, 2025, 2, 28},
        {2024, 2, 29, 3, 4, 2028, 2, 29}, {2024, 2, 29, 3, -1, 2023, 2, 28}, {2000, 2, 29, 3, 100, 2100, 2, 28}, {1, 1, 31, 3, -1, 0, 1, 31}, {0, 2, 29, 3, -1, -1, 2, 28}, {0, 1, 31, 2, -1, -1, 12, 31}, {2024, 2, 29, 2, 12, 2025, 2, 28}};
    for (int[] a : all) {
      int want = day(a[5], a[6], a[7]);
      Check.due("plus of " + a[0] + "-" + a[1] + "-" + a[2], () -> X.plus(X.date(a[0], a[1], a[2]), a[3], a[4]), want);
    }
  }

  /** between: "how many whole units", cut. */
  private static void unitsCut() {
    int[][] all = {{0, 0, 0}, {0, 1, 0}, {0, 6, 0}, {0, 7, 1}, {0, 13, 1}, {0, 14, 2}, {0, -6, 0}, {0, -7, -1}, {0, -13, -1}, {0, -14, -2}};
    for (int[] a : all) {
      Check.due(() -> X.between(a[0], a[1], 0), a[1]);
      Check.due(() -> X.between(a[0], a[1], 1), a[2]);
    }
    int days = LAST - FIRST;
    Check.due(() -> X.between(FIRST, LAST, 0), days);
    Check.due(() -> X.between(LAST, FIRST, 0), -days);
    Check.due(() -> X.between(FIRST, LAST, 1), days / 7);
    Check.due(() -> X.between(FIRST, LAST, 2), 19999 * 12 - 1);
    Check.due(() -> X.between(LAST, FIRST, 2), -(19999 * 12 - 1));
    Check.due(() -> X.between(FIRST, LAST, 3), 19998);
    Check.due(() -> X.between(LAST, FIRST, 3), -19998);
  }

  private static void between(int from, int to, int unit, int want) {
    Check.due("between " + from + " " + to + " " + unit, () -> X.between(from, to, unit), want);
    Check.due("between " + to + " " + from + " " + unit, () -> X.between(to, from, unit), -want);
  }

  /** "of months, years: the most n for which plus is not behind to". */
  private static void monthsBetween() {
    between(day(2023, 1, 31), day(2023, 2, 27), 2, 0);
    between(day(2023, 1, 31), day(2023, 2, 28), 2, 1);
    between(day(2023, 1, 31), day(2023, 3, 30), 2, 1);
    between(day(2023, 1, 31), day(2023, 3, 31), 2, 2);
    between(day(2023, 1, 15), day(2023, 2, 14), 2, 0);
    between(day(2023, 1, 15), day(2023, 2, 15), 2, 1);
    between(day(2023, 12, 31), day(2024, 1, 30), 2, 0);
    between(day(2023, 12, 31), day(2024, 1, 31), 2, 1);
    between(day(2024, 2, 29), day(2025, 2, 27), 3, 0);
    between(day(2024, 2, 29), day(2025, 2, 28), 3, 1);
    between(day(2024, 2, 29), day(2028, 2, 28), 3, 3);
    between(day(2024, 2, 29), day(2028, 2, 29), 3, 4);
    between(day(2023, 2, 28), day(2024, 2, 27), 3, 0);
    between(day(2023, 2, 28), day(2024, 2, 28), 3, 1);
    between(day(-1, 12, 31), day(0, 12, 30), 3, 0);
    between(day(-1, 12, 31), day(0, 12, 31), 3, 1);
    for (int unit = 0; unit < 4; unit++) {
      between(77, 77, unit, 0);
      between(FIRST, FIRST, unit, 0);
      between(LAST, LAST, unit, 0);
    }
  }

  /** "before: as many as the other way round, with -". */
  private static void theOtherWayRound() {
    Check.due(() -> X.between(X.date(2023, 2, 28), X.date(2023, 1, 31), 2), -1);
    Check.due(() -> X.between(X.date(2023, 3, 30), X.date(2023, 1, 31), 2), -1);
    Check.due(() -> X.between(X.date(2025, 2, 28), X.date(2024, 2, 29), 3), -1);
    Check.due(() -> X.between(X.date(2025, 2, 27), X.date(2024, 2, 29), 3), 0);
  }
}
