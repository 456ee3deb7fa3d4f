public final class FirstTest {
  public static void main(String[] args) {
    LibraryDesk x = new LibraryDesk();
    if (x.count(2) != 0 || x.count(3) != -1 || x.look(0, 0) != 0) {
      System.out.println("a new object is not as due");
      System.exit(1);
    }
  }
}
