import java.time.LocalDate;
import java.time.temporal.IsoFields;
import java.util.Random;

/** Promises 19 (date), 20 and 21 (between), beside what java.time says. */
public final class DayTest {
  private static final LibraryDesk X = new LibraryDesk();
  private static final int FIRST = (int) LocalDate.of(-9999, 1, 1).toEpochDay();
  private static final int LAST = (int) LocalDate.of(9999, 12, 31).toEpochDay();

  public static void main(String[] args) {
    for (int day = FIRST; day <= LAST; day += 97) {
      parts(day);
    }
    for (int year : new int[] {-9999, -400, -100, -4, -1, 0, 1, 4, 100, 400, 1969, 1970, 2000, 9999}) {
      for (int day = (int) LocalDate.of(year, 1, 1).toEpochDay() - 8; day < (int) LocalDate.of(year, 12, 31).toEpochDay() + 8; day++) {
        if (day >= FIRST && day <= LAST) {
          parts(day);
        }
      }
    }
    Random r = Check.random(5);
    for (int i = 0; i < 40000; i++) {
      int day = FIRST + r.nextInt(LAST - FIRST + 1);
      if (i % 3 == 0) {
        day = (int) LocalDate.of(1970 + r.nextInt(60), 1 + r.nextInt(12), 28).toEpochDay() + r.nextInt(4);
      }
      sums(day, r.nextInt(4), i % 2 == 0 ? r.nextInt(200) - 100 : r.nextInt() >> r.nextInt(32));
      gaps(day, i % 2 == 0 ? FIRST + r.nextInt(LAST - FIRST + 1) : Math.max(FIRST, Math.min(LAST, day + r.nextInt(2000) - 1000)));
    }
    wrong();
    Check.end("DayTest");
  }

  private static void parts(int day) {
    LocalDate d = LocalDate.ofEpochDay(day);
    Check.due(() -> X.date(d.getYear(), d.getMonthValue(), d.getDayOfMonth()), day);
    long[] due = {d.getYear(), d.getMonthValue(), d.getDayOfMonth(), d.getDayOfWeek().getValue(),
        d.getDayOfYear(), d.isLeapYear() ? 1 : 0, d.get(IsoFields.WEEK_OF_WEEK_BASED_YEAR),
        d.get(IsoFields.WEEK_BASED_YEAR), d.lengthOfMonth()};
    for (int i = 0; i < due.length; i++) {
      int what = i;
      Check.due("part " + day + " " + what, () -> X.part(day, what), due[i]);
    }
  }

  private static LocalDate later(LocalDate d, int unit, long n) {
    return unit == 0 ? d.plusDays(n) : unit == 1 ? d.plusWeeks(n) : unit == 2 ? d.plusMonths(n) : d.plusYears(n);
  }

  private static void sums(int day, int unit, int n) {
    String want;
    try {
      long sum = later(LocalDate.ofEpochDay(day), unit, n).toEpochDay();
      want = sum < FIRST || sum > LAST ? "throws.ArithmeticException" : "" + sum;
    } catch (java.time.DateTimeException e) {
      want = "throws.ArithmeticException";
    }
    Check.same("plus " + day + " " + unit + " " + n, Check.of(() -> X.plus(day, unit, n)), want);
  }

  private static void gaps(int from, int to) {
    for (int unit = 0; unit < 4; unit++) {
      int u = unit;
      LocalDate a = LocalDate.ofEpochDay(Math.min(from, to));
      LocalDate b = LocalDate.ofEpochDay(Math.max(from, to));
      long n = unit == 0 ? b.toEpochDay() - a.toEpochDay() : unit == 1 ? (b.toEpochDay() - a.toEpochDay()) / 7
          : unit == 2 ? (b.getYear() - a.getYear()) * 12L + b.getMonthValue() - a.getMonthValue() + 1
          : b.getYear() - a.getYear() + 1;
      while (later(a, unit, n).isAfter(b)) {
        n--;
      }
      Check.due("between " + from + " " + to + " " + unit, () -> X.between(from, to, u), from <= to ? n : -n);
    }
  }

  private static void wrong() {
    int[][] no = {{2023, 2, 29}, {2024, 2, 30}, {1900, 2, 29}, {2023, 4, 31}, {2023, 0, 1}, {2023, 13, 1},
        {2023, 1, 0}, {2023, 1, 32}, {10000, 1, 1}, {-10000, 12, 31}, {Integer.MIN_VALUE, 1, 1}, {2023, -1, 1}};
    for (int[] d : no) {
      Check.illegal(() -> X.date(d[0], d[1], d[2]));
    }
    for (int day : new int[] {FIRST - 1, LAST + 1, Integer.MIN_VALUE, Integer.MAX_VALUE}) {
      Check.illegal(() -> X.part(day, 0));
      Check.illegal(() -> X.plus(day, 0, 0));
      Check.illegal(() -> X.between(day, 0, 0));
      Check.illegal(() -> X.between(0, day, 0));
    }
    for (int what : new int[] {-1, 9, Integer.MAX_VALUE}) {
      Check.illegal(() -> X.part(0, what));
      Check.illegal(() -> X.plus(0, what < 0 ? what : 4, 0));
      Check.illegal(() -> X.between(0, 0, what < 0 ? what : 4));
    }
    Check.due(() -> X.date(1970, 1, 1), 0);
    for (int unit = 0; unit < 4; unit++) {
      int u = unit;
      Check.due(() -> X.plus(FIRST, u, 0), FIRST);
      Check.due(() -> X.plus(LAST, u, 0), LAST);
      Check.due(() -> X.between(FIRST, FIRST, u), 0);
    }
    Check.due(() -> X.plus(FIRST + 7, 1, -1), FIRST);
    Check.due(() -> X.plus(LAST - 1, 0, 1), LAST);
    Check.arithmetic(() -> X.plus(LAST, 0, 1));
    Check.arithmetic(() -> X.plus(FIRST, 0, -1));
    Check.arithmetic(() -> X.plus(LAST, 2, 1));
    Check.arithmetic(() -> X.plus(0, 3, Integer.MAX_VALUE));
    Check.arithmetic(() -> X.plus(0, 1, Integer.MIN_VALUE));
    Check.due(() -> X.plus(X.date(2024, 1, 31), 2, 1), X.date(2024, 2, 29));
    Check.due(() -> X.plus(X.date(2024, 2, 29), 3, -1), X.date(2023, 2, 28));
    Check.due(() -> X.between(X.date(2023, 1, 31), X.date(2023, 2, 28), 2), 1);
    Check.due(() -> X.between(X.date(2023, 2, 28), X.date(2023, 1, 31), 2), -1);
  }
}
