import java.lang.reflect.Constructor;
import java.lang.reflect.Field;
import java.lang.reflect.Method;
import java.lang.reflect.Modifier;
import java.util.Arrays;
import java.util.List;
import java.util.Set;
import java.util.TreeSet;

/** The public face, and the room that calls need. */
public final class FormTest {
  private static final Due d = new Due();
  private static final String FACE = "person 3,told 2,as 2,turns 2,set 3,move 2,onSeat 1,deal 1,seed 1,hall 2,bars 1,loud 2,"
      + "music 1,run 1,did 0,behind 2,first 0,rest 1,change 1,sweet 1,setOff 3,loudest 0,toldBy 3,fine 1,feed 3,trim 1,text 0,"
      + "textTold 2,why 1,sheet 3,mark 3,pour 1,reads 1,copy 5,lay 3,ask 2,item 2,remains 2,tell 1,check 1,keep 0,back 0,count 1";

  public static void main(String[] args) {
    face();
    room();
    d.end();
  }

  private static void face() {
    Set<String> due = new TreeSet<>(List.of(FACE.split(",")));
    Set<String> is = new TreeSet<>();
    for (Method m : HallCoughs.class.getDeclaredMethods()) {
      if (Modifier.isPublic(m.getModifiers())) {
        is.add(m.getName() + " " + m.getParameterCount());
        d.holds(m.getName() + " takes and gives ints", m.getReturnType() == int.class
            && Arrays.stream(m.getParameterTypes()).allMatch(t -> t == int.class) && !Modifier.isStatic(m.getModifiers()));
      } else {
        d.holds(m.getName() + " is private", Modifier.isPrivate(m.getModifiers()));
        d.holds(m.getName() + " bears no public name", !(" " + FACE.replace(",", " ") + " ").contains(" " + m.getName() + " "));
      }
    }
    d.holds("the methods are the document's: " + is, is.equals(due));
    Set<String> constants = new TreeSet<>();
    for (Field f : HallCoughs.class.getDeclaredFields()) {
      if (Modifier.isPublic(f.getModifiers())) {
        constants.add(f.getName());
      } else {
        d.holds(f.getName() + " is private", Modifier.isPrivate(f.getModifiers()));
      }
    }
    d.holds("the constants are the document's", constants.equals(
        Set.of("BAD", "NO", "FULL", "NONE", "NOTHING", "KIND", "INDEX", "SIZE")));
    Constructor<?>[] all = HallCoughs.class.getDeclaredConstructors();
    d.holds("one public constructor without arguments", all.length == 1 && Modifier.isPublic(all[0].getModifiers())
        && all[0].getParameterCount() == 0);
    d.holds("final", Modifier.isFinal(HallCoughs.class.getModifiers()));
  }

  /** 512 dear calls, the laws as long as can be, in a small part of the 7.3 million elements (of 4 bytes) that are there. */
  private static void room() {
    com.sun.management.ThreadMXBean bean =
        (com.sun.management.ThreadMXBean) java.lang.management.ManagementFactory.getThreadMXBean();
    HallCoughs warm = new HallCoughs();
    dearCalls(warm);
    long id = Thread.currentThread().getId();
    long before = bean.getThreadAllocatedBytes(id);
    HallCoughs x = new HallCoughs();
    dearCalls(x);
    long made = bean.getThreadAllocatedBytes(id) - before;
    d.holds("512 dear calls make " + made + " bytes", made < 2_000_000);
  }

  private static void dearCalls(HallCoughs x) {
    x.deal(10);
    x.keep();
    int[] law = new int[24];
    String text = "itch " + "i*".repeat(44) + "i  ";
    for (int k = 0; k < 24; k++) {
      law[k] = Due.four(text, 4 * k);
    }
    for (int round = 0; round < 42; round++) {
      for (int k = 0; k < 24; k += 3) {
        x.feed(law[k], law[k + 1], law[k + 2]);
      }
      d.holds("a long law is told", x.text() >= 0);
      x.change(40);
      x.behind(200, 0);
      if (round % 10 == 9) {
        x.back();
      }
    }
  }
}
