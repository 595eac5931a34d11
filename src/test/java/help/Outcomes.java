import java.util.Arrays;
import java.util.HashMap;
import java.util.List;
import java.util.Map;
import java.util.TreeSet;
import java.util.function.Function;

/**
 * What one side does with each message in each situation: what stands in the table is told, all else is LEFT.
 * A row of the table is "situation | message | state call timer area | cause | what is sent".
 */
final class Outcomes {
  private final int way;
  private final String[] situations;
  private final Function<String, MobileCall> scene;
  private final Map<String, String[]> told = new HashMap<>();

  Outcomes(int way, String[] situations, Function<String, MobileCall> scene, String... table) {
    this.way = way;
    this.situations = situations;
    this.scene = scene;
    for (String row : table) {
      String[] cells = Arrays.stream(row.split("\\|")).map(String::trim).toArray(String[]::new);
      if (cells.length != 5) {
        throw new IllegalArgumentException(row);
      }
      told.put(cells[0] + "|" + cells[1], cells);
    }
  }

  /**
   * Every message of the table, and some more, in every situation; with an element more, which changes nothing; with
   * a byte more, which leaves it, for it isn't good then; in every other protocol; and every type of some protocols.
   */
  void check(String... more) {
    TreeSet<String> messages = new TreeSet<>(List.of(more));
    told.values().forEach(cells -> messages.add(cells[1]));
    for (String situation : situations) {
      for (String message : messages) {
        one(situation, message, "");
        one(situation, message, " 09 00");
        one(situation, message, " 00");
        for (int protocol = 0; protocol < 256; protocol++) {
          one(situation, String.format("%02x", protocol) + message.substring(2), "");
        }
      }
      for (int protocol : new int[] {0, 1, 2, 3, 4, 5, 6, 7, 19, 131, 133, 255}) {
        for (int type = 0; type < 256; type++) {
          one(situation, String.format("%02x %02x", protocol, type), "");
        }
      }
    }
  }

  private void one(String situation, String message, String extra) {
    if (message.length() + extra.length() > 23) {
      return;
    }
    String[] cells = extra.equals(" 00") ? null : row(situation, message);
    MobileCall x = scene.apply(situation);
    int[] before = Script.told(x);
    String name = situation + ", " + message + extra;
    Script.due(name + ": forged", Script.forge(x, way, message + extra), 1);
    int type = Integer.parseInt(message.substring(3, 5), 16);
    int answer = x.carry(way);
    if (cells == null) {
      before[10]++;
      Script.due(name + ": carry", answer, type + 1000);
      Script.due(name + ": told", Arrays.toString(Script.told(x)), Arrays.toString(before));
    } else {
      Script.due(name + ": carry", answer, type);
      Script.due(name + ": told", Arrays.toString(Script.told(x)), Arrays.toString(after(before, cells)));
      Script.due(name + ": sent", Script.bytes(x, 1 - way, 0), cells[4]);
    }
  }

  /** A message that is told without an element is told with any too. */
  private String[] row(String situation, String message) {
    return told.getOrDefault(situation + "|" + message, told.get(situation + "|" + message.substring(0, 5)));
  }

  private int[] after(int[] before, String[] cells) {
    int[] due = before.clone();
    int side = way == 1 ? 0 : 4;
    String[] state = cells[2].split(" ");
    for (int k = 0; k < 4; k++) {
      due[side + k] = Integer.parseInt(state[k]);
    }
    if (!cells[3].equals("-")) {
      due[way == 1 ? 12 : 13] = Integer.parseInt(cells[3]);
    }
    due[9 - way] = cells[4].equals("none") ? 0 : 1;
    return due;
  }
}
